theorem dL_law_264 : decode cL_law 264 = .ok (.aload_n 1, 1) := by decide +kernel
theorem dL_law_265 : decode cL_law 265 = .ok (.aload_n 0, 1) := by decide +kernel
theorem dL_law_266 : decode cL_law 266 = .ok (.iload_n 3, 1) := by decide +kernel
theorem dL_law_267 : decode cL_law 267 = .ok (.iconst 1, 1) := by decide +kernel
theorem dL_law_268 : decode cL_law 268 = .ok (.iadd, 1) := by decide +kernel
theorem dL_law_269 : decode cL_law 269 = .ok (.iaload, 1) := by decide +kernel
theorem dL_law_270 : decode cL_law 270 = .ok (.aload_n 0, 1) := by decide +kernel
theorem dL_law_271 : decode cL_law 271 = .ok (.iload_n 3, 1) := by decide +kernel
theorem dL_law_272 : decode cL_law 272 = .ok (.iconst 2, 1) := by decide +kernel
theorem dL_law_273 : decode cL_law 273 = .ok (.iadd, 1) := by decide +kernel
theorem dL_law_274 : decode cL_law 274 = .ok (.iaload, 1) := by decide +kernel
theorem dL_law_275 : decode cL_law 275 = .ok (.aload_n 0, 1) := by decide +kernel
theorem dL_law_276 : decode cL_law 276 = .ok (.iload_n 3, 1) := by decide +kernel
theorem dL_law_277 : decode cL_law 277 = .ok (.iconst 3, 1) := by decide +kernel
theorem dL_law_278 : decode cL_law 278 = .ok (.iadd, 1) := by decide +kernel
theorem dL_law_279 : decode cL_law 279 = .ok (.iaload, 1) := by decide +kernel
theorem dL_law_280 : decode cL_law 280 = .ok (.aload_n 0, 1) := by decide +kernel
theorem dL_law_281 : decode cL_law 281 = .ok (.iload_n 3, 1) := by decide +kernel
theorem dL_law_282 : decode cL_law 282 = .ok (.iconst 4, 1) := by decide +kernel
theorem dL_law_283 : decode cL_law 283 = .ok (.iadd, 1) := by decide +kernel
theorem dL_law_284 : decode cL_law 284 = .ok (.iaload, 1) := by decide +kernel
theorem dL_law_285 : decode cL_law 285 = .ok (.aload_n 0, 1) := by decide +kernel
theorem dL_law_286 : decode cL_law 286 = .ok (.iload_n 3, 1) := by decide +kernel
theorem dL_law_287 : decode cL_law 287 = .ok (.iconst 5, 1) := by decide +kernel
theorem dL_law_288 : decode cL_law 288 = .ok (.iadd, 1) := by decide +kernel
theorem dL_law_289 : decode cL_law 289 = .ok (.iaload, 1) := by decide +kernel
theorem dL_law_290 : decode cL_law 290 = .ok (.invokevirtual 13, 3) := by decide +kernel
theorem dL_law_293 : decode cL_law 293 = .ok (.aload_n 2, 1) := by decide +kernel
theorem dL_law_294 : decode cL_law 294 = .ok (.aload_n 0, 1) := by decide +kernel
theorem dL_law_295 : decode cL_law 295 = .ok (.iload_n 3, 1) := by decide +kernel
theorem dL_law_296 : decode cL_law 296 = .ok (.iconst 1, 1) := by decide +kernel
theorem dL_law_297 : decode cL_law 297 = .ok (.iadd, 1) := by decide +kernel
theorem dL_law_298 : decode cL_law 298 = .ok (.iaload, 1) := by decide +kernel
theorem dL_law_299 : decode cL_law 299 = .ok (.aload_n 0, 1) := by decide +kernel
theorem dL_law_300 : decode cL_law 300 = .ok (.iload_n 3, 1) := by decide +kernel
theorem dL_law_301 : decode cL_law 301 = .ok (.iconst 2, 1) := by decide +kernel
theorem dL_law_302 : decode cL_law 302 = .ok (.iadd, 1) := by decide +kernel
theorem dL_law_303 : decode cL_law 303 = .ok (.iaload, 1) := by decide +kernel
theorem dL_law_304 : decode cL_law 304 = .ok (.aload_n 0, 1) := by decide +kernel
theorem dL_law_305 : decode cL_law 305 = .ok (.iload_n 3, 1) := by decide +kernel
theorem dL_law_306 : decode cL_law 306 = .ok (.iconst 3, 1) := by decide +kernel
theorem dL_law_307 : decode cL_law 307 = .ok (.iadd, 1) := by decide +kernel
theorem dL_law_308 : decode cL_law 308 = .ok (.iaload, 1) := by decide +kernel
theorem dL_law_309 : decode cL_law 309 = .ok (.aload_n 0, 1) := by decide +kernel
theorem dL_law_310 : decode cL_law 310 = .ok (.iload_n 3, 1) := by decide +kernel
theorem dL_law_311 : decode cL_law 311 = .ok (.iconst 4, 1) := by decide +kernel
theorem dL_law_312 : decode cL_law 312 = .ok (.iadd, 1) := by decide +kernel
theorem dL_law_313 : decode cL_law 313 = .ok (.iaload, 1) := by decide +kernel
theorem dL_law_314 : decode cL_law 314 = .ok (.aload_n 0, 1) := by decide +kernel
theorem dL_law_315 : decode cL_law 315 = .ok (.iload_n 3, 1) := by decide +kernel
theorem dL_law_316 : decode cL_law 316 = .ok (.iconst 5, 1) := by decide +kernel
theorem dL_law_317 : decode cL_law 317 = .ok (.iadd, 1) := by decide +kernel
theorem dL_law_318 : decode cL_law 318 = .ok (.iaload, 1) := by decide +kernel
theorem dL_law_319 : decode cL_law 319 = .ok (.invokevirtual 17, 3) := by decide +kernel
theorem dL_law_322 : decode cL_law 322 = .ok (.if_icmp .eq 1734, 3) := by decide +kernel
theorem dL_law_327 : decode cL_law 327 = .ok (.aload_n 1, 1) := by decide +kernel
theorem dL_law_328 : decode cL_law 328 = .ok (.aload_n 0, 1) := by decide +kernel
theorem dL_law_329 : decode cL_law 329 = .ok (.iload_n 3, 1) := by decide +kernel
theorem dL_law_330 : decode cL_law 330 = .ok (.iconst 1, 1) := by decide +kernel
theorem dL_law_331 : decode cL_law 331 = .ok (.iadd, 1) := by decide +kernel
theorem dL_law_332 : decode cL_law 332 = .ok (.iaload, 1) := by decide +kernel
theorem dL_law_333 : decode cL_law 333 = .ok (.invokevirtual 18, 3) := by decide +kernel
theorem dL_law_336 : decode cL_law 336 = .ok (.aload_n 2, 1) := by decide +kernel
theorem dL_law_337 : decode cL_law 337 = .ok (.aload_n 0, 1) := by decide +kernel
theorem dL_law_338 : decode cL_law 338 = .ok (.iload_n 3, 1) := by decide +kernel
theorem dL_law_339 : decode cL_law 339 = .ok (.iconst 1, 1) := by decide +kernel
theorem dL_law_340 : decode cL_law 340 = .ok (.iadd, 1) := by decide +kernel
theorem dL_law_341 : decode cL_law 341 = .ok (.iaload, 1) := by decide +kernel
theorem dL_law_342 : decode cL_law 342 = .ok (.invokevirtual 22, 3) := by decide +kernel
theorem dL_law_345 : decode cL_law 345 = .ok (.if_icmp .eq 1711, 3) := by decide +kernel
theorem dL_law_350 : decode cL_law 350 = .ok (.aload_n 1, 1) := by decide +kernel
theorem dL_law_351 : decode cL_law 351 = .ok (.invokevirtual 23, 3) := by decide +kernel
theorem dL_law_354 : decode cL_law 354 = .ok (.aload_n 2, 1) := by decide +kernel
theorem dL_law_355 : decode cL_law 355 = .ok (.invokevirtual 27, 3) := by decide +kernel
theorem dL_law_358 : decode cL_law 358 = .ok (.if_icmp .eq 1698, 3) := by decide +kernel
theorem dL_law_363 : decode cL_law 363 = .ok (.aload_n 1, 1) := by decide +kernel
theorem dL_law_364 : decode cL_law 364 = .ok (.aload_n 0, 1) := by decide +kernel
theorem dL_law_365 : decode cL_law 365 = .ok (.iload_n 3, 1) := by decide +kernel
theorem dL_law_366 : decode cL_law 366 = .ok (.iconst 1, 1) := by decide +kernel
theorem dL_law_367 : decode cL_law 367 = .ok (.iadd, 1) := by decide +kernel
theorem dL_law_368 : decode cL_law 368 = .ok (.iaload, 1) := by decide +kernel
theorem dL_law_369 : decode cL_law 369 = .ok (.invokevirtual 28, 3) := by decide +kernel
theorem dL_law_372 : decode cL_law 372 = .ok (.aload_n 2, 1) := by decide +kernel
theorem dL_law_373 : decode cL_law 373 = .ok (.aload_n 0, 1) := by decide +kernel
theorem dL_law_374 : decode cL_law 374 = .ok (.iload_n 3, 1) := by decide +kernel
theorem dL_law_375 : decode cL_law 375 = .ok (.iconst 1, 1) := by decide +kernel
theorem dL_law_376 : decode cL_law 376 = .ok (.iadd, 1) := by decide +kernel
theorem dL_law_377 : decode cL_law 377 = .ok (.iaload, 1) := by decide +kernel
theorem dL_law_378 : decode cL_law 378 = .ok (.invokevirtual 31, 3) := by decide +kernel
theorem dL_law_381 : decode cL_law 381 = .ok (.if_icmp .eq 1675, 3) := by decide +kernel
theorem dL_law_386 : decode cL_law 386 = .ok (.aload_n 1, 1) := by decide +kernel
theorem dL_law_387 : decode cL_law 387 = .ok (.aload_n 0, 1) := by decide +kernel
theorem dL_law_388 : decode cL_law 388 = .ok (.iload_n 3, 1) := by decide +kernel
theorem dL_law_389 : decode cL_law 389 = .ok (.iconst 1, 1) := by decide +kernel
theorem dL_law_390 : decode cL_law 390 = .ok (.iadd, 1) := by decide +kernel
theorem dL_law_391 : decode cL_law 391 = .ok (.iaload, 1) := by decide +kernel
theorem dL_law_392 : decode cL_law 392 = .ok (.invokevirtual 32, 3) := by decide +kernel
theorem dL_law_395 : decode cL_law 395 = .ok (.aload_n 2, 1) := by decide +kernel
theorem dL_law_396 : decode cL_law 396 = .ok (.aload_n 0, 1) := by decide +kernel
theorem dL_law_397 : decode cL_law 397 = .ok (.iload_n 3, 1) := by decide +kernel
theorem dL_law_398 : decode cL_law 398 = .ok (.iconst 1, 1) := by decide +kernel
theorem dL_law_399 : decode cL_law 399 = .ok (.iadd, 1) := by decide +kernel
theorem dL_law_400 : decode cL_law 400 = .ok (.iaload, 1) := by decide +kernel
theorem dL_law_401 : decode cL_law 401 = .ok (.invokevirtual 35, 3) := by decide +kernel
theorem dL_law_404 : decode cL_law 404 = .ok (.if_icmp .eq 1652, 3) := by decide +kernel
theorem dL_law_409 : decode cL_law 409 = .ok (.aload_n 1, 1) := by decide +kernel
theorem dL_law_410 : decode cL_law 410 = .ok (.aload_n 0, 1) := by decide +kernel
theorem dL_law_411 : decode cL_law 411 = .ok (.iload_n 3, 1) := by decide +kernel
theorem dL_law_412 : decode cL_law 412 = .ok (.iconst 1, 1) := by decide +kernel
theorem dL_law_413 : decode cL_law 413 = .ok (.iadd, 1) := by decide +kernel
theorem dL_law_414 : decode cL_law 414 = .ok (.iaload, 1) := by decide +kernel
theorem dL_law_415 : decode cL_law 415 = .ok (.aload_n 0, 1) := by decide +kernel
theorem dL_law_416 : decode cL_law 416 = .ok (.iload_n 3, 1) := by decide +kernel
theorem dL_law_417 : decode cL_law 417 = .ok (.iconst 2, 1) := by decide +kernel
theorem dL_law_418 : decode cL_law 418 = .ok (.iadd, 1) := by decide +kernel
theorem dL_law_419 : decode cL_law 419 = .ok (.iaload, 1) := by decide +kernel
theorem dL_law_420 : decode cL_law 420 = .ok (.invokevirtual 36, 3) := by decide +kernel
theorem dL_law_423 : decode cL_law 423 = .ok (.aload_n 2, 1) := by decide +kernel
theorem dL_law_424 : decode cL_law 424 = .ok (.aload_n 0, 1) := by decide +kernel
theorem dL_law_425 : decode cL_law 425 = .ok (.iload_n 3, 1) := by decide +kernel
theorem dL_law_426 : decode cL_law 426 = .ok (.iconst 1, 1) := by decide +kernel
theorem dL_law_427 : decode cL_law 427 = .ok (.iadd, 1) := by decide +kernel
theorem dL_law_428 : decode cL_law 428 = .ok (.iaload, 1) := by decide +kernel
theorem dL_law_429 : decode cL_law 429 = .ok (.aload_n 0, 1) := by decide +kernel
theorem dL_law_430 : decode cL_law 430 = .ok (.iload_n 3, 1) := by decide +kernel
theorem dL_law_431 : decode cL_law 431 = .ok (.iconst 2, 1) := by decide +kernel
theorem dL_law_432 : decode cL_law 432 = .ok (.iadd, 1) := by decide +kernel
theorem dL_law_433 : decode cL_law 433 = .ok (.iaload, 1) := by decide +kernel
theorem dL_law_434 : decode cL_law 434 = .ok (.invokevirtual 40, 3) := by decide +kernel
theorem dL_law_437 : decode cL_law 437 = .ok (.if_icmp .eq 1619, 3) := by decide +kernel
theorem dL_law_442 : decode cL_law 442 = .ok (.aload_n 1, 1) := by decide +kernel
theorem dL_law_443 : decode cL_law 443 = .ok (.aload_n 0, 1) := by decide +kernel
theorem dL_law_444 : decode cL_law 444 = .ok (.iload_n 3, 1) := by decide +kernel
theorem dL_law_445 : decode cL_law 445 = .ok (.iconst 1, 1) := by decide +kernel
theorem dL_law_446 : decode cL_law 446 = .ok (.iadd, 1) := by decide +kernel
theorem dL_law_447 : decode cL_law 447 = .ok (.iaload, 1) := by decide +kernel
theorem dL_law_448 : decode cL_law 448 = .ok (.aload_n 0, 1) := by decide +kernel
theorem dL_law_449 : decode cL_law 449 = .ok (.iload_n 3, 1) := by decide +kernel
theorem dL_law_450 : decode cL_law 450 = .ok (.iconst 2, 1) := by decide +kernel
theorem dL_law_451 : decode cL_law 451 = .ok (.iadd, 1) := by decide +kernel
theorem dL_law_452 : decode cL_law 452 = .ok (.iaload, 1) := by decide +kernel
theorem dL_law_453 : decode cL_law 453 = .ok (.invokevirtual 41, 3) := by decide +kernel
theorem dL_law_456 : decode cL_law 456 = .ok (.aload_n 2, 1) := by decide +kernel
theorem dL_law_457 : decode cL_law 457 = .ok (.aload_n 0, 1) := by decide +kernel
theorem dL_law_458 : decode cL_law 458 = .ok (.iload_n 3, 1) := by decide +kernel
theorem dL_law_459 : decode cL_law 459 = .ok (.iconst 1, 1) := by decide +kernel
theorem dL_law_460 : decode cL_law 460 = .ok (.iadd, 1) := by decide +kernel
theorem dL_law_461 : decode cL_law 461 = .ok (.iaload, 1) := by decide +kernel
theorem dL_law_462 : decode cL_law 462 = .ok (.aload_n 0, 1) := by decide +kernel
theorem dL_law_463 : decode cL_law 463 = .ok (.iload_n 3, 1) := by decide +kernel
theorem dL_law_464 : decode cL_law 464 = .ok (.iconst 2, 1) := by decide +kernel
theorem dL_law_465 : decode cL_law 465 = .ok (.iadd, 1) := by decide +kernel
theorem dL_law_466 : decode cL_law 466 = .ok (.iaload, 1) := by decide +kernel
theorem dL_law_467 : decode cL_law 467 = .ok (.invokevirtual 44, 3) := by decide +kernel
theorem dL_law_470 : decode cL_law 470 = .ok (.if_icmp .eq 1586, 3) := by decide +kernel
theorem dL_law_475 : decode cL_law 475 = .ok (.aload_n 1, 1) := by decide +kernel
theorem dL_law_476 : decode cL_law 476 = .ok (.aload_n 0, 1) := by decide +kernel
theorem dL_law_477 : decode cL_law 477 = .ok (.iload_n 3, 1) := by decide +kernel
theorem dL_law_478 : decode cL_law 478 = .ok (.iconst 1, 1) := by decide +kernel
theorem dL_law_479 : decode cL_law 479 = .ok (.iadd, 1) := by decide +kernel
theorem dL_law_480 : decode cL_law 480 = .ok (.iaload, 1) := by decide +kernel
theorem dL_law_481 : decode cL_law 481 = .ok (.aload_n 0, 1) := by decide +kernel
theorem dL_law_482 : decode cL_law 482 = .ok (.iload_n 3, 1) := by decide +kernel
theorem dL_law_483 : decode cL_law 483 = .ok (.iconst 2, 1) := by decide +kernel
theorem dL_law_484 : decode cL_law 484 = .ok (.iadd, 1) := by decide +kernel
theorem dL_law_485 : decode cL_law 485 = .ok (.iaload, 1) := by decide +kernel
theorem dL_law_486 : decode cL_law 486 = .ok (.invokevirtual 45, 3) := by decide +kernel
theorem dL_law_489 : decode cL_law 489 = .ok (.aload_n 2, 1) := by decide +kernel
theorem dL_law_490 : decode cL_law 490 = .ok (.aload_n 0, 1) := by decide +kernel
theorem dL_law_491 : decode cL_law 491 = .ok (.iload_n 3, 1) := by decide +kernel
theorem dL_law_492 : decode cL_law 492 = .ok (.iconst 1, 1) := by decide +kernel
theorem dL_law_493 : decode cL_law 493 = .ok (.iadd, 1) := by decide +kernel
theorem dL_law_494 : decode cL_law 494 = .ok (.iaload, 1) := by decide +kernel
theorem dL_law_495 : decode cL_law 495 = .ok (.aload_n 0, 1) := by decide +kernel
theorem dL_law_496 : decode cL_law 496 = .ok (.iload_n 3, 1) := by decide +kernel
theorem dL_law_497 : decode cL_law 497 = .ok (.iconst 2, 1) := by decide +kernel
theorem dL_law_498 : decode cL_law 498 = .ok (.iadd, 1) := by decide +kernel
theorem dL_law_499 : decode cL_law 499 = .ok (.iaload, 1) := by decide +kernel
theorem dL_law_500 : decode cL_law 500 = .ok (.invokevirtual 48, 3) := by decide +kernel
theorem dL_law_503 : decode cL_law 503 = .ok (.if_icmp .eq 1553, 3) := by decide +kernel
theorem dL_law_508 : decode cL_law 508 = .ok (.aload_n 1, 1) := by decide +kernel
theorem dL_law_509 : decode cL_law 509 = .ok (.aload_n 0, 1) := by decide +kernel
theorem dL_law_510 : decode cL_law 510 = .ok (.iload_n 3, 1) := by decide +kernel
theorem dL_law_511 : decode cL_law 511 = .ok (.iconst 1, 1) := by decide +kernel
theorem dL_law_512 : decode cL_law 512 = .ok (.iadd, 1) := by decide +kernel
theorem dL_law_513 : decode cL_law 513 = .ok (.iaload, 1) := by decide +kernel
theorem dL_law_514 : decode cL_law 514 = .ok (.invokevirtual 49, 3) := by decide +kernel
theorem dL_law_517 : decode cL_law 517 = .ok (.aload_n 2, 1) := by decide +kernel
theorem dL_law_518 : decode cL_law 518 = .ok (.aload_n 0, 1) := by decide +kernel
theorem dL_law_519 : decode cL_law 519 = .ok (.iload_n 3, 1) := by decide +kernel
theorem dL_law_520 : decode cL_law 520 = .ok (.iconst 1, 1) := by decide +kernel
theorem dL_law_521 : decode cL_law 521 = .ok (.iadd, 1) := by decide +kernel
theorem dL_law_522 : decode cL_law 522 = .ok (.iaload, 1) := by decide +kernel
theorem dL_law_523 : decode cL_law 523 = .ok (.invokevirtual 52, 3) := by decide +kernel
theorem dL_law_526 : decode cL_law 526 = .ok (.if_icmp .eq 1530, 3) := by decide +kernel
set_option maxHeartbeats 4000000 in
set_option maxRecDepth 100000 in
theorem law_c0 {p : Program} {l : Launch} {e : Env} {s : State} {m : MethodId} {below : List Frame} {meth : Method} {c : Code} {dC : Nat → ClassId} {dI : Nat → Nat → Nat} {b : Nat} {xs : Nat → Int32} (C0 : lw_At p s m meth c b 6 xs) {x0 m0 : Nat} {rx rm : Nat → Nat} {k1 : ClassId} {kf : Nat → ClassId} {H : Heap} {locs : List Loc} {ls : Array Slot} (hK : va_K (dC, dI) vwCl (law_T k1 kf) s) (hP : va_P (dC, dI) vwCl (law_W x0 m0 rx rm k1 kf) H) (hD : va_D (fun q : Nat => s.heap.size ≤ q) (law_W x0 m0 rx rm k1 kf)) (hS : va_S (fun q : Nat => s.heap.size ≤ q) s.heap H locs) (hl : lv_has ls 4 [(0, .ref b), (1, .ref x0), (2, .ref m0), (3, .int 0)]) : W p l e room_1 s m #[Value.ref b] below meth c H locs 1000 100000 (lw_Z below #[Value.ref b] s) (F0 m 264 ls []) := by
  obtain ⟨hx, hb, hr, hml, hown0, hts, hX, hbl, hlocks, hgv⟩ := id C0
  have hown : s.vm.findClass RL = some m.cls := hown0
  have hA : ∀ q : Nat, s.heap.size ≤ q → (fun q : Nat => s.heap.size ≤ q) q := fun _ h => h
  have hbA : ¬ (fun q : Nat => s.heap.size ≤ q) b := Nat.not_le.mpr hbl
  have hK : va_K (dC, dI) vwCl [(k1, .byte), ((kf 0), .int), ((kf 1), .int), ((kf 2), .int), ((kf 3), .int), ((kf 5), .int), ((kf 6), .int), ((kf 7), .int), ((kf 8), .int), ((kf 9), .int), ((kf 10), .int), ((kf 11), .int), ((kf 4), .boolean), ((kf 12), .int), ((kf 13), .int)] s := hK
  have hP : va_P (dC, dI) vwCl [(x0, .inr (11, fsX rx)), ((rx 0), .inr (6, fsR rx)), ((rx 11), .inr (10, fsT rx)), ((rx 13), .inl (k1, 1600, .inl (fun _ => 0))), ((rx 12), .inr (0, fsD rx)), ((rx 1), .inr (0, fsA rx)), (m0, .inr (12, fsM rm)), ((rm 0), .inl ((kf 0), 6, .inl (fun _ => 0))), ((rm 1), .inl ((kf 1), 36, .inl (fun _ => 0))), ((rm 2), .inl ((kf 2), 24, .inl (fun _ => 0))), ((rm 3), .inl ((kf 3), 24, .inl (fun _ => 0))), ((rm 5), .inl ((kf 5), 24, .inl (fun _ => 0))), ((rm 6), .inl ((kf 6), 24, .inl (fun _ => 0))), ((rm 7), .inl ((kf 7), 24, .inl (fun _ => 0))), ((rm 8), .inl ((kf 8), 8, .inl (fun _ => 0))), ((rm 9), .inl ((kf 9), 8, .inl (fun _ => 0))), ((rm 10), .inl ((kf 10), 8, .inl (fun _ => 0))), ((rm 11), .inl ((kf 11), 8, .inl (fun _ => 0))), ((rm 4), .inl ((kf 4), 24, .inl (fun _ => 0))), ((rm 12), .inl ((kf 12), 300, .inl (fun _ => 0))), ((rm 13), .inl ((kf 13), 1600, .inl (fun _ => 0)))] H := hP
  have hD : va_D (fun q : Nat => s.heap.size ≤ q) [(x0, .inr (11, fsX rx)), ((rx 0), .inr (6, fsR rx)), ((rx 11), .inr (10, fsT rx)), ((rx 13), .inl (k1, 1600, .inl (fun _ => 0))), ((rx 12), .inr (0, fsD rx)), ((rx 1), .inr (0, fsA rx)), (m0, .inr (12, fsM rm)), ((rm 0), .inl ((kf 0), 6, .inl (fun _ => 0))), ((rm 1), .inl ((kf 1), 36, .inl (fun _ => 0))), ((rm 2), .inl ((kf 2), 24, .inl (fun _ => 0))), ((rm 3), .inl ((kf 3), 24, .inl (fun _ => 0))), ((rm 5), .inl ((kf 5), 24, .inl (fun _ => 0))), ((rm 6), .inl ((kf 6), 24, .inl (fun _ => 0))), ((rm 7), .inl ((kf 7), 24, .inl (fun _ => 0))), ((rm 8), .inl ((kf 8), 8, .inl (fun _ => 0))), ((rm 9), .inl ((kf 9), 8, .inl (fun _ => 0))), ((rm 10), .inl ((kf 10), 8, .inl (fun _ => 0))), ((rm 11), .inl ((kf 11), 8, .inl (fun _ => 0))), ((rm 4), .inl ((kf 4), 24, .inl (fun _ => 0))), ((rm 12), .inl ((kf 12), 300, .inl (fun _ => 0))), ((rm 13), .inl ((kf 13), 1600, .inl (fun _ => 0)))] := hD
  refine lv_aload_n hx hb dL_law_264 rfl (lv_at hl 1 rfl) ?_
  refine lv_aload_n hx hb dL_law_265 rfl (lv_at hl 0 rfl) ?_
  refine lv_iload_n hx hb dL_law_266 rfl (lv_at hl 3 rfl) ?_
  refine lv_iconst (v := 1) hx hb dL_law_267 (by decide) ?_
  refine lv_iadd hx hb dL_law_268 ?_
  refine gz_topi (y := 1) (by decide) ?_
  refine va_sld hx hb hX hbl hbA hS (by unfold vp_in; decide) dL_law_269 ?_
  refine gz_topi (y := xs 1) (congrArg xs (by decide)) ?_
  refine lv_aload_n hx hb dL_law_270 rfl (lv_at hl 0 rfl) ?_
  refine lv_iload_n hx hb dL_law_271 rfl (lv_at hl 3 rfl) ?_
  refine lv_iconst (v := 2) hx hb dL_law_272 (by decide) ?_
  refine lv_iadd hx hb dL_law_273 ?_
  refine gz_topi (y := 2) (by decide) ?_
  refine va_sld hx hb hX hbl hbA hS (by unfold vp_in; decide) dL_law_274 ?_
  refine gz_topi (y := xs 2) (congrArg xs (by decide)) ?_
  refine lv_aload_n hx hb dL_law_275 rfl (lv_at hl 0 rfl) ?_
  refine lv_iload_n hx hb dL_law_276 rfl (lv_at hl 3 rfl) ?_
  refine lv_iconst (v := 3) hx hb dL_law_277 (by decide) ?_
  refine lv_iadd hx hb dL_law_278 ?_
  refine gz_topi (y := 3) (by decide) ?_
  refine va_sld hx hb hX hbl hbA hS (by unfold vp_in; decide) dL_law_279 ?_
  refine gz_topi (y := xs 3) (congrArg xs (by decide)) ?_
  refine lv_aload_n hx hb dL_law_280 rfl (lv_at hl 0 rfl) ?_
  refine lv_iload_n hx hb dL_law_281 rfl (lv_at hl 3 rfl) ?_
  refine lv_iconst (v := 4) hx hb dL_law_282 (by decide) ?_
  refine lv_iadd hx hb dL_law_283 ?_
  refine gz_topi (y := 4) (by decide) ?_
  refine va_sld hx hb hX hbl hbA hS (by unfold vp_in; decide) dL_law_284 ?_
  refine gz_topi (y := xs 4) (congrArg xs (by decide)) ?_
  refine lv_aload_n hx hb dL_law_285 rfl (lv_at hl 0 rfl) ?_
  refine lv_iload_n hx hb dL_law_286 rfl (lv_at hl 3 rfl) ?_
  refine lv_iconst (v := 5) hx hb dL_law_287 (by decide) ?_
  refine lv_iadd hx hb dL_law_288 ?_
  refine gz_topi (y := 5) (by decide) ?_
  refine va_sld hx hb hX hbl hbA hS (by unfold vp_in; decide) dL_law_289 ?_
  refine gz_topi (y := xs 5) (congrArg xs (by decide)) ?_
  have hPc := hP.sub (ws' := [(x0, .inr (11, fsX rx)), ((rx 0), .inr (6, fsR rx)), ((rx 11), .inr (10, fsT rx)), ((rx 13), .inl (k1, 1600, .inl (fun _ => 0)))]) [0, 1, 2, 3] rfl
  have hDc := hD.sub (ws' := [(x0, .inr (11, fsX rx)), ((rx 0), .inr (6, fsR rx)), ((rx 11), .inr (10, fsT rx)), ((rx 13), .inl (k1, 1600, .inl (fun _ => 0)))]) [0, 1, 2, 3] (by decide) rfl
  have hKc := hK.sub (tys' := [(k1, .byte)]) [0] rfl
  have hFc := va_free (wc := [(x0, .inr (11, fsX rx)), ((rx 0), .inr (6, fsR rx)), ((rx 11), .inr (10, fsT rx)), ((rx 13), .inl (k1, 1600, .inl (fun _ => 0)))]) hD hS hA [0, 1, 2, 3] rfl
  refine va_calli (va_runV (As := [.int (xs 1), .int (xs 2), .int (xs 3), .int (xs 4), .int (xs 5)]) (rest := []) ⟨hx, hb, hml, hown, hts⟩ (fX11_feed l dC dI H.size x0 rx k1 (xs 1) (xs 2) (xs 3) (xs 4) (xs 5)) (cwV 5 hts (gz_lV lm_1 lm_2 lm_3 lm_4 lm_0 lwGA goodGA) rfl rfl rfl (by decide +kernel) ⟨Nat.le_of_ble_eq_true rfl, Nat.le_of_ble_eq_true rfl⟩) ⟨fun a U g mk q => by obtain ⟨q0, q1, qP, qK, qD⟩ := q; exact ⟨q0, q1, qP, va_K.moved (u := U) (U := U.calling g mk a) (Vm.Alike.refl U.vm) qK, qD⟩, va_recv hKc hPc (ci := 11) (q0 := 0) rfl rfl, fun U hU hW => ⟨rfl, by rw [hU], by rw [hU]; exact hPc, va_K.moved hW.alike hKc, hDc.weaken (fun _ _ _ _ => trivial)⟩⟩ rfl rfl hl.1 rfl (lv_room (Nat.le_of_ble_eq_true rfl)) dL_law_290 ⟨Nat.le_of_ble_eq_true rfl, Nat.le_of_ble_eq_true rfl⟩) hS (fun q _ h => hFc q h) hFc (fun r_1 u t H1 locs ht hvm hw hB hz1 hk1 hS => ?_)
  obtain ⟨hP, hD⟩ := va_join (wr := [((rx 12), .inr (0, fsD rx)), ((rx 1), .inr (0, fsA rx)), (m0, .inr (12, fsM rm)), ((rm 0), .inl ((kf 0), 6, .inl (fun _ => 0))), ((rm 1), .inl ((kf 1), 36, .inl (fun _ => 0))), ((rm 2), .inl ((kf 2), 24, .inl (fun _ => 0))), ((rm 3), .inl ((kf 3), 24, .inl (fun _ => 0))), ((rm 5), .inl ((kf 5), 24, .inl (fun _ => 0))), ((rm 6), .inl ((kf 6), 24, .inl (fun _ => 0))), ((rm 7), .inl ((kf 7), 24, .inl (fun _ => 0))), ((rm 8), .inl ((kf 8), 8, .inl (fun _ => 0))), ((rm 9), .inl ((kf 9), 8, .inl (fun _ => 0))), ((rm 10), .inl ((kf 10), 8, .inl (fun _ => 0))), ((rm 11), .inl ((kf 11), 8, .inl (fun _ => 0))), ((rm 4), .inl ((kf 4), 24, .inl (fun _ => 0))), ((rm 12), .inl ((kf 12), 300, .inl (fun _ => 0))), ((rm 13), .inl ((kf 13), 1600, .inl (fun _ => 0)))]) (w1 := []) hP hD [0, 1, 2, 3] [4, 5, 6, 7, 8, 9, 10, 11, 12, 13, 14, 15, 16, 17, 18, 19, 20] rfl rfl (by decide) (by decide) hk1 hFc gz_P0 gz_D0
  generalize H1 = H at hP hS ⊢
  have hP : va_P (dC, dI) vwCl [((rx 12), .inr (0, fsD rx)), ((rx 1), .inr (0, fsA rx)), (m0, .inr (12, fsM rm)), ((rm 0), .inl ((kf 0), 6, .inl (fun _ => 0))), ((rm 1), .inl ((kf 1), 36, .inl (fun _ => 0))), ((rm 2), .inl ((kf 2), 24, .inl (fun _ => 0))), ((rm 3), .inl ((kf 3), 24, .inl (fun _ => 0))), ((rm 5), .inl ((kf 5), 24, .inl (fun _ => 0))), ((rm 6), .inl ((kf 6), 24, .inl (fun _ => 0))), ((rm 7), .inl ((kf 7), 24, .inl (fun _ => 0))), ((rm 8), .inl ((kf 8), 8, .inl (fun _ => 0))), ((rm 9), .inl ((kf 9), 8, .inl (fun _ => 0))), ((rm 10), .inl ((kf 10), 8, .inl (fun _ => 0))), ((rm 11), .inl ((kf 11), 8, .inl (fun _ => 0))), ((rm 4), .inl ((kf 4), 24, .inl (fun _ => 0))), ((rm 12), .inl ((kf 12), 300, .inl (fun _ => 0))), ((rm 13), .inl ((kf 13), 1600, .inl (fun _ => 0)))] H := hP
  have hD : va_D (fun q : Nat => s.heap.size ≤ q) [((rx 12), .inr (0, fsD rx)), ((rx 1), .inr (0, fsA rx)), (m0, .inr (12, fsM rm)), ((rm 0), .inl ((kf 0), 6, .inl (fun _ => 0))), ((rm 1), .inl ((kf 1), 36, .inl (fun _ => 0))), ((rm 2), .inl ((kf 2), 24, .inl (fun _ => 0))), ((rm 3), .inl ((kf 3), 24, .inl (fun _ => 0))), ((rm 5), .inl ((kf 5), 24, .inl (fun _ => 0))), ((rm 6), .inl ((kf 6), 24, .inl (fun _ => 0))), ((rm 7), .inl ((kf 7), 24, .inl (fun _ => 0))), ((rm 8), .inl ((kf 8), 8, .inl (fun _ => 0))), ((rm 9), .inl ((kf 9), 8, .inl (fun _ => 0))), ((rm 10), .inl ((kf 10), 8, .inl (fun _ => 0))), ((rm 11), .inl ((kf 11), 8, .inl (fun _ => 0))), ((rm 4), .inl ((kf 4), 24, .inl (fun _ => 0))), ((rm 12), .inl ((kf 12), 300, .inl (fun _ => 0))), ((rm 13), .inl ((kf 13), 1600, .inl (fun _ => 0)))] := hD
  subst hw
  refine lv_aload_n hx hb dL_law_293 rfl (lv_at hl 2 rfl) ?_
  refine lv_aload_n hx hb dL_law_294 rfl (lv_at hl 0 rfl) ?_
  refine lv_iload_n hx hb dL_law_295 rfl (lv_at hl 3 rfl) ?_
  refine lv_iconst (v := 1) hx hb dL_law_296 (by decide) ?_
  refine lv_iadd hx hb dL_law_297 ?_
  refine gz_topi (y := 1) (by decide) ?_
  refine va_sld hx hb hX hbl hbA hS (by unfold vp_in; decide) dL_law_298 ?_
  refine gz_topi (y := xs 1) (congrArg xs (by decide)) ?_
  refine lv_aload_n hx hb dL_law_299 rfl (lv_at hl 0 rfl) ?_
  refine lv_iload_n hx hb dL_law_300 rfl (lv_at hl 3 rfl) ?_
  refine lv_iconst (v := 2) hx hb dL_law_301 (by decide) ?_
  refine lv_iadd hx hb dL_law_302 ?_
  refine gz_topi (y := 2) (by decide) ?_
  refine va_sld hx hb hX hbl hbA hS (by unfold vp_in; decide) dL_law_303 ?_
  refine gz_topi (y := xs 2) (congrArg xs (by decide)) ?_
  refine lv_aload_n hx hb dL_law_304 rfl (lv_at hl 0 rfl) ?_
  refine lv_iload_n hx hb dL_law_305 rfl (lv_at hl 3 rfl) ?_
  refine lv_iconst (v := 3) hx hb dL_law_306 (by decide) ?_
  refine lv_iadd hx hb dL_law_307 ?_
  refine gz_topi (y := 3) (by decide) ?_
  refine va_sld hx hb hX hbl hbA hS (by unfold vp_in; decide) dL_law_308 ?_
  refine gz_topi (y := xs 3) (congrArg xs (by decide)) ?_
  refine lv_aload_n hx hb dL_law_309 rfl (lv_at hl 0 rfl) ?_
  refine lv_iload_n hx hb dL_law_310 rfl (lv_at hl 3 rfl) ?_
  refine lv_iconst (v := 4) hx hb dL_law_311 (by decide) ?_
  refine lv_iadd hx hb dL_law_312 ?_
  refine gz_topi (y := 4) (by decide) ?_
  refine va_sld hx hb hX hbl hbA hS (by unfold vp_in; decide) dL_law_313 ?_
  refine gz_topi (y := xs 4) (congrArg xs (by decide)) ?_
  refine lv_aload_n hx hb dL_law_314 rfl (lv_at hl 0 rfl) ?_
  refine lv_iload_n hx hb dL_law_315 rfl (lv_at hl 3 rfl) ?_
  refine lv_iconst (v := 5) hx hb dL_law_316 (by decide) ?_
  refine lv_iadd hx hb dL_law_317 ?_
  refine gz_topi (y := 5) (by decide) ?_
  refine va_sld hx hb hX hbl hbA hS (by unfold vp_in; decide) dL_law_318 ?_
  refine gz_topi (y := xs 5) (congrArg xs (by decide)) ?_
  have hPc := hP.sub (ws' := [(m0, .inr (12, fsM rm)), ((rm 13), .inl ((kf 13), 1600, .inl (fun _ => 0)))]) [2, 16] rfl
  have hDc := hD.sub (ws' := [(m0, .inr (12, fsM rm)), ((rm 13), .inl ((kf 13), 1600, .inl (fun _ => 0)))]) [2, 16] (by decide) rfl
  have hKc := hK.sub (tys' := [((kf 13), .int)]) [14] rfl
  have hFc := va_free (wc := [(m0, .inr (12, fsM rm)), ((rm 13), .inl ((kf 13), 1600, .inl (fun _ => 0)))]) hD hS hA [2, 16] rfl
  refine va_calli (va_runV (As := [.int (xs 1), .int (xs 2), .int (xs 3), .int (xs 4), .int (xs 5)]) (rest := [.int 20]) ⟨hx, hb, hml, hown, hts⟩ (fX12_feed l dC dI H.size m0 rm kf (xs 1) (xs 2) (xs 3) (xs 4) (xs 5)) (cwV 5 hts (gz_lV lm_6 lm_7 lm_8 lm_9 lm_5 lwGB goodGB) rfl rfl rfl (by decide +kernel) ⟨Nat.le_of_ble_eq_true rfl, Nat.le_of_ble_eq_true rfl⟩) ⟨fun a U g mk q => by obtain ⟨q0, q1, qP, qK, qD⟩ := q; exact ⟨q0, q1, qP, va_K.moved (u := U) (U := U.calling g mk a) (Vm.Alike.refl U.vm) qK, qD⟩, va_recv hKc hPc (ci := 12) (q0 := 0) rfl rfl, fun U hU hW => ⟨rfl, by rw [hU], by rw [hU]; exact hPc, va_K.moved hW.alike hKc, hDc.weaken (fun _ _ _ _ => trivial)⟩⟩ rfl rfl hl.1 rfl (lv_room (Nat.le_of_ble_eq_true rfl)) dL_law_319 ⟨Nat.le_of_ble_eq_true rfl, Nat.le_of_ble_eq_true rfl⟩) hS (fun q _ h => hFc q h) hFc (fun r_2 u t H1 locs ht hvm hw hB hz1 hk1 hS => ?_)
  obtain ⟨hP, hD⟩ := va_join (wr := [((rx 12), .inr (0, fsD rx)), ((rx 1), .inr (0, fsA rx)), ((rm 0), .inl ((kf 0), 6, .inl (fun _ => 0))), ((rm 1), .inl ((kf 1), 36, .inl (fun _ => 0))), ((rm 2), .inl ((kf 2), 24, .inl (fun _ => 0))), ((rm 3), .inl ((kf 3), 24, .inl (fun _ => 0))), ((rm 5), .inl ((kf 5), 24, .inl (fun _ => 0))), ((rm 6), .inl ((kf 6), 24, .inl (fun _ => 0))), ((rm 7), .inl ((kf 7), 24, .inl (fun _ => 0))), ((rm 8), .inl ((kf 8), 8, .inl (fun _ => 0))), ((rm 9), .inl ((kf 9), 8, .inl (fun _ => 0))), ((rm 10), .inl ((kf 10), 8, .inl (fun _ => 0))), ((rm 11), .inl ((kf 11), 8, .inl (fun _ => 0))), ((rm 4), .inl ((kf 4), 24, .inl (fun _ => 0))), ((rm 12), .inl ((kf 12), 300, .inl (fun _ => 0)))]) (w1 := []) hP hD [2, 16] [0, 1, 3, 4, 5, 6, 7, 8, 9, 10, 11, 12, 13, 14, 15] rfl rfl (by decide) (by decide) hk1 hFc gz_P0 gz_D0
  generalize H1 = H at hP hS ⊢
  have hP : va_P (dC, dI) vwCl [((rx 12), .inr (0, fsD rx)), ((rx 1), .inr (0, fsA rx)), ((rm 0), .inl ((kf 0), 6, .inl (fun _ => 0))), ((rm 1), .inl ((kf 1), 36, .inl (fun _ => 0))), ((rm 2), .inl ((kf 2), 24, .inl (fun _ => 0))), ((rm 3), .inl ((kf 3), 24, .inl (fun _ => 0))), ((rm 5), .inl ((kf 5), 24, .inl (fun _ => 0))), ((rm 6), .inl ((kf 6), 24, .inl (fun _ => 0))), ((rm 7), .inl ((kf 7), 24, .inl (fun _ => 0))), ((rm 8), .inl ((kf 8), 8, .inl (fun _ => 0))), ((rm 9), .inl ((kf 9), 8, .inl (fun _ => 0))), ((rm 10), .inl ((kf 10), 8, .inl (fun _ => 0))), ((rm 11), .inl ((kf 11), 8, .inl (fun _ => 0))), ((rm 4), .inl ((kf 4), 24, .inl (fun _ => 0))), ((rm 12), .inl ((kf 12), 300, .inl (fun _ => 0)))] H := hP
  have hD : va_D (fun q : Nat => s.heap.size ≤ q) [((rx 12), .inr (0, fsD rx)), ((rx 1), .inr (0, fsA rx)), ((rm 0), .inl ((kf 0), 6, .inl (fun _ => 0))), ((rm 1), .inl ((kf 1), 36, .inl (fun _ => 0))), ((rm 2), .inl ((kf 2), 24, .inl (fun _ => 0))), ((rm 3), .inl ((kf 3), 24, .inl (fun _ => 0))), ((rm 5), .inl ((kf 5), 24, .inl (fun _ => 0))), ((rm 6), .inl ((kf 6), 24, .inl (fun _ => 0))), ((rm 7), .inl ((kf 7), 24, .inl (fun _ => 0))), ((rm 8), .inl ((kf 8), 8, .inl (fun _ => 0))), ((rm 9), .inl ((kf 9), 8, .inl (fun _ => 0))), ((rm 10), .inl ((kf 10), 8, .inl (fun _ => 0))), ((rm 11), .inl ((kf 11), 8, .inl (fun _ => 0))), ((rm 4), .inl ((kf 4), 24, .inl (fun _ => 0))), ((rm 12), .inl ((kf 12), 300, .inl (fun _ => 0)))] := hD
  refine W.widen (k := 1001) (n := 100005) (Nat.le_of_ble_eq_true rfl) (Nat.le_of_ble_eq_true rfl) ?_
  subst hw
  refine lv_icmp_eq (tgt := 2056) hx hb dL_law_322 (by decide) (fun c_3 => ?_) (fun c_3 => absurd (by decide) c_3)
  exact law_tail C0 (Nat.le_of_ble_eq_true rfl) (Nat.le_of_ble_eq_true rfl) hS (lv_sub hl [0, 3] rfl)
set_option maxHeartbeats 4000000 in
set_option maxRecDepth 100000 in
theorem law_c1 {p : Program} {l : Launch} {e : Env} {s : State} {m : MethodId} {below : List Frame} {meth : Method} {c : Code} {dC : Nat → ClassId} {dI : Nat → Nat → Nat} {b : Nat} {xs : Nat → Int32} (C0 : lw_At p s m meth c b 6 xs) {x0 m0 : Nat} {rx rm : Nat → Nat} {k1 : ClassId} {kf : Nat → ClassId} {H : Heap} {locs : List Loc} {ls : Array Slot} (hK : va_K (dC, dI) vwCl (law_T k1 kf) s) (hP : va_P (dC, dI) vwCl (law_W x0 m0 rx rm k1 kf) H) (hD : va_D (fun q : Nat => s.heap.size ≤ q) (law_W x0 m0 rx rm k1 kf)) (hS : va_S (fun q : Nat => s.heap.size ≤ q) s.heap H locs) (hl : lv_has ls 4 [(0, .ref b), (1, .ref x0), (2, .ref m0), (3, .int 0)]) : W p l e room_1 s m #[Value.ref b] below meth c H locs 1000 100000 (lw_Z below #[Value.ref b] s) (F0 m 327 ls []) := by
  obtain ⟨hx, hb, hr, hml, hown0, hts, hX, hbl, hlocks, hgv⟩ := id C0
  have hown : s.vm.findClass RL = some m.cls := hown0
  have hA : ∀ q : Nat, s.heap.size ≤ q → (fun q : Nat => s.heap.size ≤ q) q := fun _ h => h
  have hbA : ¬ (fun q : Nat => s.heap.size ≤ q) b := Nat.not_le.mpr hbl
  have hK : va_K (dC, dI) vwCl [(k1, .byte), ((kf 0), .int), ((kf 1), .int), ((kf 2), .int), ((kf 3), .int), ((kf 5), .int), ((kf 6), .int), ((kf 7), .int), ((kf 8), .int), ((kf 9), .int), ((kf 10), .int), ((kf 11), .int), ((kf 4), .boolean), ((kf 12), .int), ((kf 13), .int)] s := hK
  have hP : va_P (dC, dI) vwCl [(x0, .inr (11, fsX rx)), ((rx 0), .inr (6, fsR rx)), ((rx 11), .inr (10, fsT rx)), ((rx 13), .inl (k1, 1600, .inl (fun _ => 0))), ((rx 12), .inr (0, fsD rx)), ((rx 1), .inr (0, fsA rx)), (m0, .inr (12, fsM rm)), ((rm 0), .inl ((kf 0), 6, .inl (fun _ => 0))), ((rm 1), .inl ((kf 1), 36, .inl (fun _ => 0))), ((rm 2), .inl ((kf 2), 24, .inl (fun _ => 0))), ((rm 3), .inl ((kf 3), 24, .inl (fun _ => 0))), ((rm 5), .inl ((kf 5), 24, .inl (fun _ => 0))), ((rm 6), .inl ((kf 6), 24, .inl (fun _ => 0))), ((rm 7), .inl ((kf 7), 24, .inl (fun _ => 0))), ((rm 8), .inl ((kf 8), 8, .inl (fun _ => 0))), ((rm 9), .inl ((kf 9), 8, .inl (fun _ => 0))), ((rm 10), .inl ((kf 10), 8, .inl (fun _ => 0))), ((rm 11), .inl ((kf 11), 8, .inl (fun _ => 0))), ((rm 4), .inl ((kf 4), 24, .inl (fun _ => 0))), ((rm 12), .inl ((kf 12), 300, .inl (fun _ => 0))), ((rm 13), .inl ((kf 13), 1600, .inl (fun _ => 0)))] H := hP
  have hD : va_D (fun q : Nat => s.heap.size ≤ q) [(x0, .inr (11, fsX rx)), ((rx 0), .inr (6, fsR rx)), ((rx 11), .inr (10, fsT rx)), ((rx 13), .inl (k1, 1600, .inl (fun _ => 0))), ((rx 12), .inr (0, fsD rx)), ((rx 1), .inr (0, fsA rx)), (m0, .inr (12, fsM rm)), ((rm 0), .inl ((kf 0), 6, .inl (fun _ => 0))), ((rm 1), .inl ((kf 1), 36, .inl (fun _ => 0))), ((rm 2), .inl ((kf 2), 24, .inl (fun _ => 0))), ((rm 3), .inl ((kf 3), 24, .inl (fun _ => 0))), ((rm 5), .inl ((kf 5), 24, .inl (fun _ => 0))), ((rm 6), .inl ((kf 6), 24, .inl (fun _ => 0))), ((rm 7), .inl ((kf 7), 24, .inl (fun _ => 0))), ((rm 8), .inl ((kf 8), 8, .inl (fun _ => 0))), ((rm 9), .inl ((kf 9), 8, .inl (fun _ => 0))), ((rm 10), .inl ((kf 10), 8, .inl (fun _ => 0))), ((rm 11), .inl ((kf 11), 8, .inl (fun _ => 0))), ((rm 4), .inl ((kf 4), 24, .inl (fun _ => 0))), ((rm 12), .inl ((kf 12), 300, .inl (fun _ => 0))), ((rm 13), .inl ((kf 13), 1600, .inl (fun _ => 0)))] := hD
  refine lv_aload_n hx hb dL_law_327 rfl (lv_at hl 1 rfl) ?_
  refine lv_aload_n hx hb dL_law_328 rfl (lv_at hl 0 rfl) ?_
  refine lv_iload_n hx hb dL_law_329 rfl (lv_at hl 3 rfl) ?_
  refine lv_iconst (v := 1) hx hb dL_law_330 (by decide) ?_
  refine lv_iadd hx hb dL_law_331 ?_
  refine gz_topi (y := 1) (by decide) ?_
  refine va_sld hx hb hX hbl hbA hS (by unfold vp_in; decide) dL_law_332 ?_
  refine gz_topi (y := xs 1) (congrArg xs (by decide)) ?_
  have hPc := hP.sub (ws' := [(x0, .inr (11, fsX rx)), ((rx 0), .inr (6, fsR rx)), ((rx 11), .inr (10, fsT rx))]) [0, 1, 2] rfl
  have hDc := hD.sub (ws' := [(x0, .inr (11, fsX rx)), ((rx 0), .inr (6, fsR rx)), ((rx 11), .inr (10, fsT rx))]) [0, 1, 2] (by decide) rfl
  have hKc := hK.sub (tys' := []) [] rfl
  have hFc := va_free (wc := [(x0, .inr (11, fsX rx)), ((rx 0), .inr (6, fsR rx)), ((rx 11), .inr (10, fsT rx))]) hD hS hA [0, 1, 2] rfl
  refine va_calli (va_runV (As := [.int (xs 1)]) (rest := []) ⟨hx, hb, hml, hown, hts⟩ (fX11_end l dC dI H.size x0 rx (xs 1)) (cwV 1 hts (gz_lV lm_11 lm_12 lm_13 lm_4 lm_10 lwGA goodGA) rfl rfl rfl (by decide +kernel) ⟨Nat.le_of_ble_eq_true rfl, Nat.le_of_ble_eq_true rfl⟩) ⟨fun a U g mk q => by obtain ⟨q0, q1, qP, qK, qD⟩ := q; exact ⟨q0, q1, qP, va_K.moved (u := U) (U := U.calling g mk a) (Vm.Alike.refl U.vm) qK, qD⟩, va_recv hKc hPc (ci := 11) (q0 := 0) rfl rfl, fun U hU hW => ⟨rfl, by rw [hU], by rw [hU]; exact hPc, va_K.moved hW.alike hKc, hDc.weaken (fun _ _ _ _ => trivial)⟩⟩ rfl rfl hl.1 rfl (lv_room (Nat.le_of_ble_eq_true rfl)) dL_law_333 ⟨Nat.le_of_ble_eq_true rfl, Nat.le_of_ble_eq_true rfl⟩) hS (fun q _ h => hFc q h) hFc (fun r_1 u t H1 locs ht hvm hw hB hz1 hk1 hS => ?_)
  obtain ⟨hP, hD⟩ := va_join (wr := [((rx 13), .inl (k1, 1600, .inl (fun _ => 0))), ((rx 12), .inr (0, fsD rx)), ((rx 1), .inr (0, fsA rx)), (m0, .inr (12, fsM rm)), ((rm 0), .inl ((kf 0), 6, .inl (fun _ => 0))), ((rm 1), .inl ((kf 1), 36, .inl (fun _ => 0))), ((rm 2), .inl ((kf 2), 24, .inl (fun _ => 0))), ((rm 3), .inl ((kf 3), 24, .inl (fun _ => 0))), ((rm 5), .inl ((kf 5), 24, .inl (fun _ => 0))), ((rm 6), .inl ((kf 6), 24, .inl (fun _ => 0))), ((rm 7), .inl ((kf 7), 24, .inl (fun _ => 0))), ((rm 8), .inl ((kf 8), 8, .inl (fun _ => 0))), ((rm 9), .inl ((kf 9), 8, .inl (fun _ => 0))), ((rm 10), .inl ((kf 10), 8, .inl (fun _ => 0))), ((rm 11), .inl ((kf 11), 8, .inl (fun _ => 0))), ((rm 4), .inl ((kf 4), 24, .inl (fun _ => 0))), ((rm 12), .inl ((kf 12), 300, .inl (fun _ => 0))), ((rm 13), .inl ((kf 13), 1600, .inl (fun _ => 0)))]) (w1 := []) hP hD [0, 1, 2] [3, 4, 5, 6, 7, 8, 9, 10, 11, 12, 13, 14, 15, 16, 17, 18, 19, 20] rfl rfl (by decide) (by decide) hk1 hFc gz_P0 gz_D0
  generalize H1 = H at hP hS ⊢
  have hP : va_P (dC, dI) vwCl [((rx 13), .inl (k1, 1600, .inl (fun _ => 0))), ((rx 12), .inr (0, fsD rx)), ((rx 1), .inr (0, fsA rx)), (m0, .inr (12, fsM rm)), ((rm 0), .inl ((kf 0), 6, .inl (fun _ => 0))), ((rm 1), .inl ((kf 1), 36, .inl (fun _ => 0))), ((rm 2), .inl ((kf 2), 24, .inl (fun _ => 0))), ((rm 3), .inl ((kf 3), 24, .inl (fun _ => 0))), ((rm 5), .inl ((kf 5), 24, .inl (fun _ => 0))), ((rm 6), .inl ((kf 6), 24, .inl (fun _ => 0))), ((rm 7), .inl ((kf 7), 24, .inl (fun _ => 0))), ((rm 8), .inl ((kf 8), 8, .inl (fun _ => 0))), ((rm 9), .inl ((kf 9), 8, .inl (fun _ => 0))), ((rm 10), .inl ((kf 10), 8, .inl (fun _ => 0))), ((rm 11), .inl ((kf 11), 8, .inl (fun _ => 0))), ((rm 4), .inl ((kf 4), 24, .inl (fun _ => 0))), ((rm 12), .inl ((kf 12), 300, .inl (fun _ => 0))), ((rm 13), .inl ((kf 13), 1600, .inl (fun _ => 0)))] H := hP
  have hD : va_D (fun q : Nat => s.heap.size ≤ q) [((rx 13), .inl (k1, 1600, .inl (fun _ => 0))), ((rx 12), .inr (0, fsD rx)), ((rx 1), .inr (0, fsA rx)), (m0, .inr (12, fsM rm)), ((rm 0), .inl ((kf 0), 6, .inl (fun _ => 0))), ((rm 1), .inl ((kf 1), 36, .inl (fun _ => 0))), ((rm 2), .inl ((kf 2), 24, .inl (fun _ => 0))), ((rm 3), .inl ((kf 3), 24, .inl (fun _ => 0))), ((rm 5), .inl ((kf 5), 24, .inl (fun _ => 0))), ((rm 6), .inl ((kf 6), 24, .inl (fun _ => 0))), ((rm 7), .inl ((kf 7), 24, .inl (fun _ => 0))), ((rm 8), .inl ((kf 8), 8, .inl (fun _ => 0))), ((rm 9), .inl ((kf 9), 8, .inl (fun _ => 0))), ((rm 10), .inl ((kf 10), 8, .inl (fun _ => 0))), ((rm 11), .inl ((kf 11), 8, .inl (fun _ => 0))), ((rm 4), .inl ((kf 4), 24, .inl (fun _ => 0))), ((rm 12), .inl ((kf 12), 300, .inl (fun _ => 0))), ((rm 13), .inl ((kf 13), 1600, .inl (fun _ => 0)))] := hD
  subst hw
  refine lv_aload_n hx hb dL_law_336 rfl (lv_at hl 2 rfl) ?_
  refine lv_aload_n hx hb dL_law_337 rfl (lv_at hl 0 rfl) ?_
  refine lv_iload_n hx hb dL_law_338 rfl (lv_at hl 3 rfl) ?_
  refine lv_iconst (v := 1) hx hb dL_law_339 (by decide) ?_
  refine lv_iadd hx hb dL_law_340 ?_
  refine gz_topi (y := 1) (by decide) ?_
  refine va_sld hx hb hX hbl hbA hS (by unfold vp_in; decide) dL_law_341 ?_
  refine gz_topi (y := xs 1) (congrArg xs (by decide)) ?_
  have hPc := hP.sub (ws' := [(m0, .inr (12, fsM rm))]) [3] rfl
  have hDc := hD.sub (ws' := [(m0, .inr (12, fsM rm))]) [3] (by decide) rfl
  have hKc := hK.sub (tys' := []) [] rfl
  have hFc := va_free (wc := [(m0, .inr (12, fsM rm))]) hD hS hA [3] rfl
  refine va_calli (va_runV (As := [.int (xs 1)]) (rest := [.int (gz_end (xs 1))]) ⟨hx, hb, hml, hown, hts⟩ (fX12_end l dC dI H.size m0 rm (xs 1)) (cwV 1 hts (gz_lV lm_15 lm_16 lm_17 lm_9 lm_14 lwGB goodGB) rfl rfl rfl (by decide +kernel) ⟨Nat.le_of_ble_eq_true rfl, Nat.le_of_ble_eq_true rfl⟩) ⟨fun a U g mk q => by obtain ⟨q0, q1, qP, qK, qD⟩ := q; exact ⟨q0, q1, qP, va_K.moved (u := U) (U := U.calling g mk a) (Vm.Alike.refl U.vm) qK, qD⟩, va_recv hKc hPc (ci := 12) (q0 := 0) rfl rfl, fun U hU hW => ⟨rfl, by rw [hU], by rw [hU]; exact hPc, va_K.moved hW.alike hKc, hDc.weaken (fun _ _ _ _ => trivial)⟩⟩ rfl rfl hl.1 rfl (lv_room (Nat.le_of_ble_eq_true rfl)) dL_law_342 ⟨Nat.le_of_ble_eq_true rfl, Nat.le_of_ble_eq_true rfl⟩) hS (fun q _ h => hFc q h) hFc (fun r_2 u t H1 locs ht hvm hw hB hz1 hk1 hS => ?_)
  obtain ⟨hP, hD⟩ := va_join (wr := [((rx 13), .inl (k1, 1600, .inl (fun _ => 0))), ((rx 12), .inr (0, fsD rx)), ((rx 1), .inr (0, fsA rx)), ((rm 0), .inl ((kf 0), 6, .inl (fun _ => 0))), ((rm 1), .inl ((kf 1), 36, .inl (fun _ => 0))), ((rm 2), .inl ((kf 2), 24, .inl (fun _ => 0))), ((rm 3), .inl ((kf 3), 24, .inl (fun _ => 0))), ((rm 5), .inl ((kf 5), 24, .inl (fun _ => 0))), ((rm 6), .inl ((kf 6), 24, .inl (fun _ => 0))), ((rm 7), .inl ((kf 7), 24, .inl (fun _ => 0))), ((rm 8), .inl ((kf 8), 8, .inl (fun _ => 0))), ((rm 9), .inl ((kf 9), 8, .inl (fun _ => 0))), ((rm 10), .inl ((kf 10), 8, .inl (fun _ => 0))), ((rm 11), .inl ((kf 11), 8, .inl (fun _ => 0))), ((rm 4), .inl ((kf 4), 24, .inl (fun _ => 0))), ((rm 12), .inl ((kf 12), 300, .inl (fun _ => 0))), ((rm 13), .inl ((kf 13), 1600, .inl (fun _ => 0)))]) (w1 := []) hP hD [3] [0, 1, 2, 4, 5, 6, 7, 8, 9, 10, 11, 12, 13, 14, 15, 16, 17] rfl rfl (by decide) (by decide) hk1 hFc gz_P0 gz_D0
  generalize H1 = H at hP hS ⊢
  have hP : va_P (dC, dI) vwCl [((rx 13), .inl (k1, 1600, .inl (fun _ => 0))), ((rx 12), .inr (0, fsD rx)), ((rx 1), .inr (0, fsA rx)), ((rm 0), .inl ((kf 0), 6, .inl (fun _ => 0))), ((rm 1), .inl ((kf 1), 36, .inl (fun _ => 0))), ((rm 2), .inl ((kf 2), 24, .inl (fun _ => 0))), ((rm 3), .inl ((kf 3), 24, .inl (fun _ => 0))), ((rm 5), .inl ((kf 5), 24, .inl (fun _ => 0))), ((rm 6), .inl ((kf 6), 24, .inl (fun _ => 0))), ((rm 7), .inl ((kf 7), 24, .inl (fun _ => 0))), ((rm 8), .inl ((kf 8), 8, .inl (fun _ => 0))), ((rm 9), .inl ((kf 9), 8, .inl (fun _ => 0))), ((rm 10), .inl ((kf 10), 8, .inl (fun _ => 0))), ((rm 11), .inl ((kf 11), 8, .inl (fun _ => 0))), ((rm 4), .inl ((kf 4), 24, .inl (fun _ => 0))), ((rm 12), .inl ((kf 12), 300, .inl (fun _ => 0))), ((rm 13), .inl ((kf 13), 1600, .inl (fun _ => 0)))] H := hP
  have hD : va_D (fun q : Nat => s.heap.size ≤ q) [((rx 13), .inl (k1, 1600, .inl (fun _ => 0))), ((rx 12), .inr (0, fsD rx)), ((rx 1), .inr (0, fsA rx)), ((rm 0), .inl ((kf 0), 6, .inl (fun _ => 0))), ((rm 1), .inl ((kf 1), 36, .inl (fun _ => 0))), ((rm 2), .inl ((kf 2), 24, .inl (fun _ => 0))), ((rm 3), .inl ((kf 3), 24, .inl (fun _ => 0))), ((rm 5), .inl ((kf 5), 24, .inl (fun _ => 0))), ((rm 6), .inl ((kf 6), 24, .inl (fun _ => 0))), ((rm 7), .inl ((kf 7), 24, .inl (fun _ => 0))), ((rm 8), .inl ((kf 8), 8, .inl (fun _ => 0))), ((rm 9), .inl ((kf 9), 8, .inl (fun _ => 0))), ((rm 10), .inl ((kf 10), 8, .inl (fun _ => 0))), ((rm 11), .inl ((kf 11), 8, .inl (fun _ => 0))), ((rm 4), .inl ((kf 4), 24, .inl (fun _ => 0))), ((rm 12), .inl ((kf 12), 300, .inl (fun _ => 0))), ((rm 13), .inl ((kf 13), 1600, .inl (fun _ => 0)))] := hD
  subst hw
  refine lv_icmp_eq (tgt := 2056) hx hb dL_law_345 (by decide) (fun c_3 => ?_) (fun c_3 => absurd rfl c_3)
  exact law_tail C0 (Nat.le_of_ble_eq_true rfl) (Nat.le_of_ble_eq_true rfl) hS (lv_sub hl [0, 3] rfl)
set_option maxHeartbeats 4000000 in
set_option maxRecDepth 100000 in
theorem law_c2 {p : Program} {l : Launch} {e : Env} {s : State} {m : MethodId} {below : List Frame} {meth : Method} {c : Code} {dC : Nat → ClassId} {dI : Nat → Nat → Nat} {b : Nat} {xs : Nat → Int32} (C0 : lw_At p s m meth c b 6 xs) {x0 m0 : Nat} {rx rm : Nat → Nat} {k1 : ClassId} {kf : Nat → ClassId} {H : Heap} {locs : List Loc} {ls : Array Slot} (hK : va_K (dC, dI) vwCl (law_T k1 kf) s) (hP : va_P (dC, dI) vwCl (law_W x0 m0 rx rm k1 kf) H) (hD : va_D (fun q : Nat => s.heap.size ≤ q) (law_W x0 m0 rx rm k1 kf)) (hS : va_S (fun q : Nat => s.heap.size ≤ q) s.heap H locs) (hl : lv_has ls 4 [(0, .ref b), (1, .ref x0), (2, .ref m0), (3, .int 0)]) : W p l e room_1 s m #[Value.ref b] below meth c H locs 1000 100000 (lw_Z below #[Value.ref b] s) (F0 m 350 ls []) := by
  obtain ⟨hx, hb, hr, hml, hown0, hts, hX, hbl, hlocks, hgv⟩ := id C0
  have hown : s.vm.findClass RL = some m.cls := hown0
  have hA : ∀ q : Nat, s.heap.size ≤ q → (fun q : Nat => s.heap.size ≤ q) q := fun _ h => h
  have hbA : ¬ (fun q : Nat => s.heap.size ≤ q) b := Nat.not_le.mpr hbl
  have hK : va_K (dC, dI) vwCl [(k1, .byte), ((kf 0), .int), ((kf 1), .int), ((kf 2), .int), ((kf 3), .int), ((kf 5), .int), ((kf 6), .int), ((kf 7), .int), ((kf 8), .int), ((kf 9), .int), ((kf 10), .int), ((kf 11), .int), ((kf 4), .boolean), ((kf 12), .int), ((kf 13), .int)] s := hK
  have hP : va_P (dC, dI) vwCl [(x0, .inr (11, fsX rx)), ((rx 0), .inr (6, fsR rx)), ((rx 11), .inr (10, fsT rx)), ((rx 13), .inl (k1, 1600, .inl (fun _ => 0))), ((rx 12), .inr (0, fsD rx)), ((rx 1), .inr (0, fsA rx)), (m0, .inr (12, fsM rm)), ((rm 0), .inl ((kf 0), 6, .inl (fun _ => 0))), ((rm 1), .inl ((kf 1), 36, .inl (fun _ => 0))), ((rm 2), .inl ((kf 2), 24, .inl (fun _ => 0))), ((rm 3), .inl ((kf 3), 24, .inl (fun _ => 0))), ((rm 5), .inl ((kf 5), 24, .inl (fun _ => 0))), ((rm 6), .inl ((kf 6), 24, .inl (fun _ => 0))), ((rm 7), .inl ((kf 7), 24, .inl (fun _ => 0))), ((rm 8), .inl ((kf 8), 8, .inl (fun _ => 0))), ((rm 9), .inl ((kf 9), 8, .inl (fun _ => 0))), ((rm 10), .inl ((kf 10), 8, .inl (fun _ => 0))), ((rm 11), .inl ((kf 11), 8, .inl (fun _ => 0))), ((rm 4), .inl ((kf 4), 24, .inl (fun _ => 0))), ((rm 12), .inl ((kf 12), 300, .inl (fun _ => 0))), ((rm 13), .inl ((kf 13), 1600, .inl (fun _ => 0)))] H := hP
  have hD : va_D (fun q : Nat => s.heap.size ≤ q) [(x0, .inr (11, fsX rx)), ((rx 0), .inr (6, fsR rx)), ((rx 11), .inr (10, fsT rx)), ((rx 13), .inl (k1, 1600, .inl (fun _ => 0))), ((rx 12), .inr (0, fsD rx)), ((rx 1), .inr (0, fsA rx)), (m0, .inr (12, fsM rm)), ((rm 0), .inl ((kf 0), 6, .inl (fun _ => 0))), ((rm 1), .inl ((kf 1), 36, .inl (fun _ => 0))), ((rm 2), .inl ((kf 2), 24, .inl (fun _ => 0))), ((rm 3), .inl ((kf 3), 24, .inl (fun _ => 0))), ((rm 5), .inl ((kf 5), 24, .inl (fun _ => 0))), ((rm 6), .inl ((kf 6), 24, .inl (fun _ => 0))), ((rm 7), .inl ((kf 7), 24, .inl (fun _ => 0))), ((rm 8), .inl ((kf 8), 8, .inl (fun _ => 0))), ((rm 9), .inl ((kf 9), 8, .inl (fun _ => 0))), ((rm 10), .inl ((kf 10), 8, .inl (fun _ => 0))), ((rm 11), .inl ((kf 11), 8, .inl (fun _ => 0))), ((rm 4), .inl ((kf 4), 24, .inl (fun _ => 0))), ((rm 12), .inl ((kf 12), 300, .inl (fun _ => 0))), ((rm 13), .inl ((kf 13), 1600, .inl (fun _ => 0)))] := hD
  refine lv_aload_n hx hb dL_law_350 rfl (lv_at hl 1 rfl) ?_
  have hPc := hP.sub (ws' := [(x0, .inr (11, fsX rx)), ((rx 0), .inr (6, fsR rx)), ((rx 11), .inr (10, fsT rx)), ((rx 12), .inr (0, fsD rx))]) [0, 1, 2, 4] rfl
  have hDc := hD.sub (ws' := [(x0, .inr (11, fsX rx)), ((rx 0), .inr (6, fsR rx)), ((rx 11), .inr (10, fsT rx)), ((rx 12), .inr (0, fsD rx))]) [0, 1, 2, 4] (by decide) rfl
  have hKc := hK.sub (tys' := []) [] rfl
  have hFc := va_free (wc := [(x0, .inr (11, fsX rx)), ((rx 0), .inr (6, fsR rx)), ((rx 11), .inr (10, fsT rx)), ((rx 12), .inr (0, fsD rx))]) hD hS hA [0, 1, 2, 4] rfl
  refine va_calli (va_runV (As := []) (rest := []) ⟨hx, hb, hml, hown, hts⟩ (fX11_almanac l dC dI H.size x0 rx) (cwV 0 hts (gz_lV lm_19 lm_20 lm_21 lm_4 lm_18 lwGA goodGA) rfl rfl rfl (by decide +kernel) ⟨Nat.le_of_ble_eq_true rfl, Nat.le_of_ble_eq_true rfl⟩) ⟨fun a U g mk q => by obtain ⟨q0, q1, qP, qK, qD⟩ := q; exact ⟨q0, q1, qP, va_K.moved (u := U) (U := U.calling g mk a) (Vm.Alike.refl U.vm) qK, qD⟩, va_recv hKc hPc (ci := 11) (q0 := 0) rfl rfl, fun U hU hW => ⟨rfl, by rw [hU], by rw [hU]; exact hPc, va_K.moved hW.alike hKc, hDc.weaken (fun _ _ _ _ => trivial)⟩⟩ rfl rfl hl.1 rfl (lv_room (Nat.le_of_ble_eq_true rfl)) dL_law_351 ⟨Nat.le_of_ble_eq_true rfl, Nat.le_of_ble_eq_true rfl⟩) hS (fun q _ h => hFc q h) hFc (fun r_1 u t H1 locs ht hvm hw hB hz1 hk1 hS => ?_)
  obtain ⟨hP, hD⟩ := va_join (wr := [((rx 13), .inl (k1, 1600, .inl (fun _ => 0))), ((rx 1), .inr (0, fsA rx)), (m0, .inr (12, fsM rm)), ((rm 0), .inl ((kf 0), 6, .inl (fun _ => 0))), ((rm 1), .inl ((kf 1), 36, .inl (fun _ => 0))), ((rm 2), .inl ((kf 2), 24, .inl (fun _ => 0))), ((rm 3), .inl ((kf 3), 24, .inl (fun _ => 0))), ((rm 5), .inl ((kf 5), 24, .inl (fun _ => 0))), ((rm 6), .inl ((kf 6), 24, .inl (fun _ => 0))), ((rm 7), .inl ((kf 7), 24, .inl (fun _ => 0))), ((rm 8), .inl ((kf 8), 8, .inl (fun _ => 0))), ((rm 9), .inl ((kf 9), 8, .inl (fun _ => 0))), ((rm 10), .inl ((kf 10), 8, .inl (fun _ => 0))), ((rm 11), .inl ((kf 11), 8, .inl (fun _ => 0))), ((rm 4), .inl ((kf 4), 24, .inl (fun _ => 0))), ((rm 12), .inl ((kf 12), 300, .inl (fun _ => 0))), ((rm 13), .inl ((kf 13), 1600, .inl (fun _ => 0)))]) (w1 := []) hP hD [0, 1, 2, 4] [3, 5, 6, 7, 8, 9, 10, 11, 12, 13, 14, 15, 16, 17, 18, 19, 20] rfl rfl (by decide) (by decide) hk1 hFc gz_P0 gz_D0
  generalize H1 = H at hP hS ⊢
  have hP : va_P (dC, dI) vwCl [((rx 13), .inl (k1, 1600, .inl (fun _ => 0))), ((rx 1), .inr (0, fsA rx)), (m0, .inr (12, fsM rm)), ((rm 0), .inl ((kf 0), 6, .inl (fun _ => 0))), ((rm 1), .inl ((kf 1), 36, .inl (fun _ => 0))), ((rm 2), .inl ((kf 2), 24, .inl (fun _ => 0))), ((rm 3), .inl ((kf 3), 24, .inl (fun _ => 0))), ((rm 5), .inl ((kf 5), 24, .inl (fun _ => 0))), ((rm 6), .inl ((kf 6), 24, .inl (fun _ => 0))), ((rm 7), .inl ((kf 7), 24, .inl (fun _ => 0))), ((rm 8), .inl ((kf 8), 8, .inl (fun _ => 0))), ((rm 9), .inl ((kf 9), 8, .inl (fun _ => 0))), ((rm 10), .inl ((kf 10), 8, .inl (fun _ => 0))), ((rm 11), .inl ((kf 11), 8, .inl (fun _ => 0))), ((rm 4), .inl ((kf 4), 24, .inl (fun _ => 0))), ((rm 12), .inl ((kf 12), 300, .inl (fun _ => 0))), ((rm 13), .inl ((kf 13), 1600, .inl (fun _ => 0)))] H := hP
  have hD : va_D (fun q : Nat => s.heap.size ≤ q) [((rx 13), .inl (k1, 1600, .inl (fun _ => 0))), ((rx 1), .inr (0, fsA rx)), (m0, .inr (12, fsM rm)), ((rm 0), .inl ((kf 0), 6, .inl (fun _ => 0))), ((rm 1), .inl ((kf 1), 36, .inl (fun _ => 0))), ((rm 2), .inl ((kf 2), 24, .inl (fun _ => 0))), ((rm 3), .inl ((kf 3), 24, .inl (fun _ => 0))), ((rm 5), .inl ((kf 5), 24, .inl (fun _ => 0))), ((rm 6), .inl ((kf 6), 24, .inl (fun _ => 0))), ((rm 7), .inl ((kf 7), 24, .inl (fun _ => 0))), ((rm 8), .inl ((kf 8), 8, .inl (fun _ => 0))), ((rm 9), .inl ((kf 9), 8, .inl (fun _ => 0))), ((rm 10), .inl ((kf 10), 8, .inl (fun _ => 0))), ((rm 11), .inl ((kf 11), 8, .inl (fun _ => 0))), ((rm 4), .inl ((kf 4), 24, .inl (fun _ => 0))), ((rm 12), .inl ((kf 12), 300, .inl (fun _ => 0))), ((rm 13), .inl ((kf 13), 1600, .inl (fun _ => 0)))] := hD
  subst hw
  refine lv_aload_n hx hb dL_law_354 rfl (lv_at hl 2 rfl) ?_
  have hPc := hP.sub (ws' := [(m0, .inr (12, fsM rm)), ((rm 0), .inl ((kf 0), 6, .inl (fun _ => 0))), ((rm 1), .inl ((kf 1), 36, .inl (fun _ => 0))), ((rm 2), .inl ((kf 2), 24, .inl (fun _ => 0))), ((rm 3), .inl ((kf 3), 24, .inl (fun _ => 0))), ((rm 5), .inl ((kf 5), 24, .inl (fun _ => 0))), ((rm 6), .inl ((kf 6), 24, .inl (fun _ => 0))), ((rm 7), .inl ((kf 7), 24, .inl (fun _ => 0))), ((rm 8), .inl ((kf 8), 8, .inl (fun _ => 0))), ((rm 9), .inl ((kf 9), 8, .inl (fun _ => 0))), ((rm 10), .inl ((kf 10), 8, .inl (fun _ => 0))), ((rm 11), .inl ((kf 11), 8, .inl (fun _ => 0))), ((rm 4), .inl ((kf 4), 24, .inl (fun _ => 0))), ((rm 12), .inl ((kf 12), 300, .inl (fun _ => 0)))]) [2, 3, 4, 5, 6, 7, 8, 9, 10, 11, 12, 13, 14, 15] rfl
  have hDc := hD.sub (ws' := [(m0, .inr (12, fsM rm)), ((rm 0), .inl ((kf 0), 6, .inl (fun _ => 0))), ((rm 1), .inl ((kf 1), 36, .inl (fun _ => 0))), ((rm 2), .inl ((kf 2), 24, .inl (fun _ => 0))), ((rm 3), .inl ((kf 3), 24, .inl (fun _ => 0))), ((rm 5), .inl ((kf 5), 24, .inl (fun _ => 0))), ((rm 6), .inl ((kf 6), 24, .inl (fun _ => 0))), ((rm 7), .inl ((kf 7), 24, .inl (fun _ => 0))), ((rm 8), .inl ((kf 8), 8, .inl (fun _ => 0))), ((rm 9), .inl ((kf 9), 8, .inl (fun _ => 0))), ((rm 10), .inl ((kf 10), 8, .inl (fun _ => 0))), ((rm 11), .inl ((kf 11), 8, .inl (fun _ => 0))), ((rm 4), .inl ((kf 4), 24, .inl (fun _ => 0))), ((rm 12), .inl ((kf 12), 300, .inl (fun _ => 0)))]) [2, 3, 4, 5, 6, 7, 8, 9, 10, 11, 12, 13, 14, 15] (by decide) rfl
  have hKc := hK.sub (tys' := [((kf 0), .int), ((kf 1), .int), ((kf 2), .int), ((kf 3), .int), ((kf 5), .int), ((kf 6), .int), ((kf 7), .int), ((kf 8), .int), ((kf 9), .int), ((kf 10), .int), ((kf 11), .int), ((kf 4), .boolean), ((kf 12), .int)]) [1, 2, 3, 4, 5, 6, 7, 8, 9, 10, 11, 12, 13] rfl
  have hFc := va_free (wc := [(m0, .inr (12, fsM rm)), ((rm 0), .inl ((kf 0), 6, .inl (fun _ => 0))), ((rm 1), .inl ((kf 1), 36, .inl (fun _ => 0))), ((rm 2), .inl ((kf 2), 24, .inl (fun _ => 0))), ((rm 3), .inl ((kf 3), 24, .inl (fun _ => 0))), ((rm 5), .inl ((kf 5), 24, .inl (fun _ => 0))), ((rm 6), .inl ((kf 6), 24, .inl (fun _ => 0))), ((rm 7), .inl ((kf 7), 24, .inl (fun _ => 0))), ((rm 8), .inl ((kf 8), 8, .inl (fun _ => 0))), ((rm 9), .inl ((kf 9), 8, .inl (fun _ => 0))), ((rm 10), .inl ((kf 10), 8, .inl (fun _ => 0))), ((rm 11), .inl ((kf 11), 8, .inl (fun _ => 0))), ((rm 4), .inl ((kf 4), 24, .inl (fun _ => 0))), ((rm 12), .inl ((kf 12), 300, .inl (fun _ => 0)))]) hD hS hA [2, 3, 4, 5, 6, 7, 8, 9, 10, 11, 12, 13, 14, 15] rfl
  refine va_calli (va_runV (As := []) (rest := [.int 0]) ⟨hx, hb, hml, hown, hts⟩ (fX12_almanac l dC dI H.size m0 rm kf) (cwV 0 hts (gz_lV lm_23 lm_24 lm_25 lm_9 lm_22 lwGB goodGB) rfl rfl rfl (by decide +kernel) ⟨Nat.le_of_ble_eq_true rfl, Nat.le_of_ble_eq_true rfl⟩) ⟨fun a U g mk q => by obtain ⟨q0, q1, qP, qK, qD⟩ := q; exact ⟨q0, q1, qP, va_K.moved (u := U) (U := U.calling g mk a) (Vm.Alike.refl U.vm) qK, qD⟩, va_recv hKc hPc (ci := 12) (q0 := 0) rfl rfl, fun U hU hW => ⟨rfl, by rw [hU], by rw [hU]; exact hPc, va_K.moved hW.alike hKc, hDc.weaken (fun _ _ _ _ => trivial)⟩⟩ rfl rfl hl.1 rfl (lv_room (Nat.le_of_ble_eq_true rfl)) dL_law_355 ⟨Nat.le_of_ble_eq_true rfl, Nat.le_of_ble_eq_true rfl⟩) hS (fun q _ h => hFc q h) hFc (fun r_2 u t H1 locs ht hvm hw hB hz1 hk1 hS => ?_)
  obtain ⟨hP, hD⟩ := va_join (wr := [((rx 13), .inl (k1, 1600, .inl (fun _ => 0))), ((rx 1), .inr (0, fsA rx)), ((rm 13), .inl ((kf 13), 1600, .inl (fun _ => 0)))]) (w1 := []) hP hD [2, 3, 4, 5, 6, 7, 8, 9, 10, 11, 12, 13, 14, 15] [0, 1, 16] rfl rfl (by decide) (by decide) hk1 hFc gz_P0 gz_D0
  generalize H1 = H at hP hS ⊢
  have hP : va_P (dC, dI) vwCl [((rx 13), .inl (k1, 1600, .inl (fun _ => 0))), ((rx 1), .inr (0, fsA rx)), ((rm 13), .inl ((kf 13), 1600, .inl (fun _ => 0)))] H := hP
  have hD : va_D (fun q : Nat => s.heap.size ≤ q) [((rx 13), .inl (k1, 1600, .inl (fun _ => 0))), ((rx 1), .inr (0, fsA rx)), ((rm 13), .inl ((kf 13), 1600, .inl (fun _ => 0)))] := hD
  subst hw
  refine lv_icmp_eq (tgt := 2056) hx hb dL_law_358 (by decide) (fun c_3 => ?_) (fun c_3 => absurd (by decide) c_3)
  exact law_tail C0 (Nat.le_of_ble_eq_true rfl) (Nat.le_of_ble_eq_true rfl) hS (lv_sub hl [0, 3] rfl)
set_option maxHeartbeats 4000000 in
set_option maxRecDepth 100000 in
theorem law_c3 {p : Program} {l : Launch} {e : Env} {s : State} {m : MethodId} {below : List Frame} {meth : Method} {c : Code} {dC : Nat → ClassId} {dI : Nat → Nat → Nat} {b : Nat} {xs : Nat → Int32} (C0 : lw_At p s m meth c b 6 xs) {x0 m0 : Nat} {rx rm : Nat → Nat} {k1 : ClassId} {kf : Nat → ClassId} {H : Heap} {locs : List Loc} {ls : Array Slot} (hK : va_K (dC, dI) vwCl (law_T k1 kf) s) (hP : va_P (dC, dI) vwCl (law_W x0 m0 rx rm k1 kf) H) (hD : va_D (fun q : Nat => s.heap.size ≤ q) (law_W x0 m0 rx rm k1 kf)) (hS : va_S (fun q : Nat => s.heap.size ≤ q) s.heap H locs) (hl : lv_has ls 4 [(0, .ref b), (1, .ref x0), (2, .ref m0), (3, .int 0)]) : W p l e room_1 s m #[Value.ref b] below meth c H locs 1000 100000 (lw_Z below #[Value.ref b] s) (F0 m 363 ls []) := by
  obtain ⟨hx, hb, hr, hml, hown0, hts, hX, hbl, hlocks, hgv⟩ := id C0
  have hown : s.vm.findClass RL = some m.cls := hown0
  have hA : ∀ q : Nat, s.heap.size ≤ q → (fun q : Nat => s.heap.size ≤ q) q := fun _ h => h
  have hbA : ¬ (fun q : Nat => s.heap.size ≤ q) b := Nat.not_le.mpr hbl
  have hK : va_K (dC, dI) vwCl [(k1, .byte), ((kf 0), .int), ((kf 1), .int), ((kf 2), .int), ((kf 3), .int), ((kf 5), .int), ((kf 6), .int), ((kf 7), .int), ((kf 8), .int), ((kf 9), .int), ((kf 10), .int), ((kf 11), .int), ((kf 4), .boolean), ((kf 12), .int), ((kf 13), .int)] s := hK
  have hP : va_P (dC, dI) vwCl [(x0, .inr (11, fsX rx)), ((rx 0), .inr (6, fsR rx)), ((rx 11), .inr (10, fsT rx)), ((rx 13), .inl (k1, 1600, .inl (fun _ => 0))), ((rx 12), .inr (0, fsD rx)), ((rx 1), .inr (0, fsA rx)), (m0, .inr (12, fsM rm)), ((rm 0), .inl ((kf 0), 6, .inl (fun _ => 0))), ((rm 1), .inl ((kf 1), 36, .inl (fun _ => 0))), ((rm 2), .inl ((kf 2), 24, .inl (fun _ => 0))), ((rm 3), .inl ((kf 3), 24, .inl (fun _ => 0))), ((rm 5), .inl ((kf 5), 24, .inl (fun _ => 0))), ((rm 6), .inl ((kf 6), 24, .inl (fun _ => 0))), ((rm 7), .inl ((kf 7), 24, .inl (fun _ => 0))), ((rm 8), .inl ((kf 8), 8, .inl (fun _ => 0))), ((rm 9), .inl ((kf 9), 8, .inl (fun _ => 0))), ((rm 10), .inl ((kf 10), 8, .inl (fun _ => 0))), ((rm 11), .inl ((kf 11), 8, .inl (fun _ => 0))), ((rm 4), .inl ((kf 4), 24, .inl (fun _ => 0))), ((rm 12), .inl ((kf 12), 300, .inl (fun _ => 0))), ((rm 13), .inl ((kf 13), 1600, .inl (fun _ => 0)))] H := hP
  have hD : va_D (fun q : Nat => s.heap.size ≤ q) [(x0, .inr (11, fsX rx)), ((rx 0), .inr (6, fsR rx)), ((rx 11), .inr (10, fsT rx)), ((rx 13), .inl (k1, 1600, .inl (fun _ => 0))), ((rx 12), .inr (0, fsD rx)), ((rx 1), .inr (0, fsA rx)), (m0, .inr (12, fsM rm)), ((rm 0), .inl ((kf 0), 6, .inl (fun _ => 0))), ((rm 1), .inl ((kf 1), 36, .inl (fun _ => 0))), ((rm 2), .inl ((kf 2), 24, .inl (fun _ => 0))), ((rm 3), .inl ((kf 3), 24, .inl (fun _ => 0))), ((rm 5), .inl ((kf 5), 24, .inl (fun _ => 0))), ((rm 6), .inl ((kf 6), 24, .inl (fun _ => 0))), ((rm 7), .inl ((kf 7), 24, .inl (fun _ => 0))), ((rm 8), .inl ((kf 8), 8, .inl (fun _ => 0))), ((rm 9), .inl ((kf 9), 8, .inl (fun _ => 0))), ((rm 10), .inl ((kf 10), 8, .inl (fun _ => 0))), ((rm 11), .inl ((kf 11), 8, .inl (fun _ => 0))), ((rm 4), .inl ((kf 4), 24, .inl (fun _ => 0))), ((rm 12), .inl ((kf 12), 300, .inl (fun _ => 0))), ((rm 13), .inl ((kf 13), 1600, .inl (fun _ => 0)))] := hD
  refine lv_aload_n hx hb dL_law_363 rfl (lv_at hl 1 rfl) ?_
  refine lv_aload_n hx hb dL_law_364 rfl (lv_at hl 0 rfl) ?_
  refine lv_iload_n hx hb dL_law_365 rfl (lv_at hl 3 rfl) ?_
  refine lv_iconst (v := 1) hx hb dL_law_366 (by decide) ?_
  refine lv_iadd hx hb dL_law_367 ?_
  refine gz_topi (y := 1) (by decide) ?_
  refine va_sld hx hb hX hbl hbA hS (by unfold vp_in; decide) dL_law_368 ?_
  refine gz_topi (y := xs 1) (congrArg xs (by decide)) ?_
  have hPc := hP.sub (ws' := [(x0, .inr (11, fsX rx)), ((rx 0), .inr (6, fsR rx))]) [0, 1] rfl
  have hKc := hK.sub (tys' := []) [] rfl
  refine va_calli (va_runV (As := [.int (xs 1)]) (rest := []) ⟨hx, hb, hml, hown, hts⟩ (fX11_fault l dC dI x0 rx (xs 1)) (cwV 1 hts (gz_lV lm_27 lm_28 lm_29 lm_4 lm_26 lwGA goodGA) rfl rfl rfl (by decide +kernel) ⟨Nat.le_of_ble_eq_true rfl, Nat.le_of_ble_eq_true rfl⟩) ⟨fun a U g mk q => by obtain ⟨q0, qP, qK⟩ := q; exact ⟨q0, qP, va_K.moved (u := U) (U := U.calling g mk a) (Vm.Alike.refl U.vm) qK⟩, va_recv hKc hPc (ci := 11) (q0 := 0) rfl rfl, fun U hU hW => ⟨rfl, by rw [hU]; exact hPc, va_K.moved hW.alike hKc⟩⟩ rfl rfl hl.1 rfl (lv_room (Nat.le_of_ble_eq_true rfl)) dL_law_369 ⟨Nat.le_of_ble_eq_true rfl, Nat.le_of_ble_eq_true rfl⟩) hS (fun q _ h => h.elim) (fun q h => h.elim) (fun r_1 u t H1 locs ht hvm hw hB hz1 hk1 hS => ?_)
  have hP := gz_keep hP hk1
  generalize H1 = H at hP hS ⊢
  subst hw
  refine lv_aload_n hx hb dL_law_372 rfl (lv_at hl 2 rfl) ?_
  refine lv_aload_n hx hb dL_law_373 rfl (lv_at hl 0 rfl) ?_
  refine lv_iload_n hx hb dL_law_374 rfl (lv_at hl 3 rfl) ?_
  refine lv_iconst (v := 1) hx hb dL_law_375 (by decide) ?_
  refine lv_iadd hx hb dL_law_376 ?_
  refine gz_topi (y := 1) (by decide) ?_
  refine va_sld hx hb hX hbl hbA hS (by unfold vp_in; decide) dL_law_377 ?_
  refine gz_topi (y := xs 1) (congrArg xs (by decide)) ?_
  have hPc := hP.sub (ws' := [(m0, .inr (12, fsM rm))]) [6] rfl
  have hKc := hK.sub (tys' := []) [] rfl
  refine va_calli (va_runV (As := [.int (xs 1)]) (rest := [.int (gz_fault (xs 1))]) ⟨hx, hb, hml, hown, hts⟩ (fX12_fault l dC dI m0 rm (xs 1)) (cwV 1 hts (gz_lV lm_31 lm_32 lm_33 lm_9 lm_30 lwGB goodGB) rfl rfl rfl (by decide +kernel) ⟨Nat.le_of_ble_eq_true rfl, Nat.le_of_ble_eq_true rfl⟩) ⟨fun a U g mk q => by obtain ⟨q0, qP, qK⟩ := q; exact ⟨q0, qP, va_K.moved (u := U) (U := U.calling g mk a) (Vm.Alike.refl U.vm) qK⟩, va_recv hKc hPc (ci := 12) (q0 := 0) rfl rfl, fun U hU hW => ⟨rfl, by rw [hU]; exact hPc, va_K.moved hW.alike hKc⟩⟩ rfl rfl hl.1 rfl (lv_room (Nat.le_of_ble_eq_true rfl)) dL_law_378 ⟨Nat.le_of_ble_eq_true rfl, Nat.le_of_ble_eq_true rfl⟩) hS (fun q _ h => h.elim) (fun q h => h.elim) (fun r_2 u t H1 locs ht hvm hw hB hz1 hk1 hS => ?_)
  have hP := gz_keep hP hk1
  generalize H1 = H at hP hS ⊢
  subst hw
  refine lv_icmp_eq (tgt := 2056) hx hb dL_law_381 (by decide) (fun c_3 => ?_) (fun c_3 => absurd rfl c_3)
  exact law_tail C0 (Nat.le_of_ble_eq_true rfl) (Nat.le_of_ble_eq_true rfl) hS (lv_sub hl [0, 3] rfl)
set_option maxHeartbeats 4000000 in
set_option maxRecDepth 100000 in
theorem law_c4 {p : Program} {l : Launch} {e : Env} {s : State} {m : MethodId} {below : List Frame} {meth : Method} {c : Code} {dC : Nat → ClassId} {dI : Nat → Nat → Nat} {b : Nat} {xs : Nat → Int32} (C0 : lw_At p s m meth c b 6 xs) {x0 m0 : Nat} {rx rm : Nat → Nat} {k1 : ClassId} {kf : Nat → ClassId} {H : Heap} {locs : List Loc} {ls : Array Slot} (hK : va_K (dC, dI) vwCl (law_T k1 kf) s) (hP : va_P (dC, dI) vwCl (law_W x0 m0 rx rm k1 kf) H) (hD : va_D (fun q : Nat => s.heap.size ≤ q) (law_W x0 m0 rx rm k1 kf)) (hS : va_S (fun q : Nat => s.heap.size ≤ q) s.heap H locs) (hl : lv_has ls 4 [(0, .ref b), (1, .ref x0), (2, .ref m0), (3, .int 0)]) : W p l e room_1 s m #[Value.ref b] below meth c H locs 1000 100000 (lw_Z below #[Value.ref b] s) (F0 m 386 ls []) := by
  obtain ⟨hx, hb, hr, hml, hown0, hts, hX, hbl, hlocks, hgv⟩ := id C0
  have hown : s.vm.findClass RL = some m.cls := hown0
  have hA : ∀ q : Nat, s.heap.size ≤ q → (fun q : Nat => s.heap.size ≤ q) q := fun _ h => h
  have hbA : ¬ (fun q : Nat => s.heap.size ≤ q) b := Nat.not_le.mpr hbl
  have hK : va_K (dC, dI) vwCl [(k1, .byte), ((kf 0), .int), ((kf 1), .int), ((kf 2), .int), ((kf 3), .int), ((kf 5), .int), ((kf 6), .int), ((kf 7), .int), ((kf 8), .int), ((kf 9), .int), ((kf 10), .int), ((kf 11), .int), ((kf 4), .boolean), ((kf 12), .int), ((kf 13), .int)] s := hK
  have hP : va_P (dC, dI) vwCl [(x0, .inr (11, fsX rx)), ((rx 0), .inr (6, fsR rx)), ((rx 11), .inr (10, fsT rx)), ((rx 13), .inl (k1, 1600, .inl (fun _ => 0))), ((rx 12), .inr (0, fsD rx)), ((rx 1), .inr (0, fsA rx)), (m0, .inr (12, fsM rm)), ((rm 0), .inl ((kf 0), 6, .inl (fun _ => 0))), ((rm 1), .inl ((kf 1), 36, .inl (fun _ => 0))), ((rm 2), .inl ((kf 2), 24, .inl (fun _ => 0))), ((rm 3), .inl ((kf 3), 24, .inl (fun _ => 0))), ((rm 5), .inl ((kf 5), 24, .inl (fun _ => 0))), ((rm 6), .inl ((kf 6), 24, .inl (fun _ => 0))), ((rm 7), .inl ((kf 7), 24, .inl (fun _ => 0))), ((rm 8), .inl ((kf 8), 8, .inl (fun _ => 0))), ((rm 9), .inl ((kf 9), 8, .inl (fun _ => 0))), ((rm 10), .inl ((kf 10), 8, .inl (fun _ => 0))), ((rm 11), .inl ((kf 11), 8, .inl (fun _ => 0))), ((rm 4), .inl ((kf 4), 24, .inl (fun _ => 0))), ((rm 12), .inl ((kf 12), 300, .inl (fun _ => 0))), ((rm 13), .inl ((kf 13), 1600, .inl (fun _ => 0)))] H := hP
  have hD : va_D (fun q : Nat => s.heap.size ≤ q) [(x0, .inr (11, fsX rx)), ((rx 0), .inr (6, fsR rx)), ((rx 11), .inr (10, fsT rx)), ((rx 13), .inl (k1, 1600, .inl (fun _ => 0))), ((rx 12), .inr (0, fsD rx)), ((rx 1), .inr (0, fsA rx)), (m0, .inr (12, fsM rm)), ((rm 0), .inl ((kf 0), 6, .inl (fun _ => 0))), ((rm 1), .inl ((kf 1), 36, .inl (fun _ => 0))), ((rm 2), .inl ((kf 2), 24, .inl (fun _ => 0))), ((rm 3), .inl ((kf 3), 24, .inl (fun _ => 0))), ((rm 5), .inl ((kf 5), 24, .inl (fun _ => 0))), ((rm 6), .inl ((kf 6), 24, .inl (fun _ => 0))), ((rm 7), .inl ((kf 7), 24, .inl (fun _ => 0))), ((rm 8), .inl ((kf 8), 8, .inl (fun _ => 0))), ((rm 9), .inl ((kf 9), 8, .inl (fun _ => 0))), ((rm 10), .inl ((kf 10), 8, .inl (fun _ => 0))), ((rm 11), .inl ((kf 11), 8, .inl (fun _ => 0))), ((rm 4), .inl ((kf 4), 24, .inl (fun _ => 0))), ((rm 12), .inl ((kf 12), 300, .inl (fun _ => 0))), ((rm 13), .inl ((kf 13), 1600, .inl (fun _ => 0)))] := hD
  refine lv_aload_n hx hb dL_law_386 rfl (lv_at hl 1 rfl) ?_
  refine lv_aload_n hx hb dL_law_387 rfl (lv_at hl 0 rfl) ?_
  refine lv_iload_n hx hb dL_law_388 rfl (lv_at hl 3 rfl) ?_
  refine lv_iconst (v := 1) hx hb dL_law_389 (by decide) ?_
  refine lv_iadd hx hb dL_law_390 ?_
  refine gz_topi (y := 1) (by decide) ?_
  refine va_sld hx hb hX hbl hbA hS (by unfold vp_in; decide) dL_law_391 ?_
  refine gz_topi (y := xs 1) (congrArg xs (by decide)) ?_
  have hPc := hP.sub (ws' := [(x0, .inr (11, fsX rx)), ((rx 1), .inr (0, fsA rx)), ((rx 0), .inr (6, fsR rx)), ((rx 11), .inr (10, fsT rx))]) [0, 5, 1, 2] rfl
  have hKc := hK.sub (tys' := []) [] rfl
  refine va_calli (va_runV (As := [.int (xs 1)]) (rest := []) ⟨hx, hb, hml, hown, hts⟩ (fX11_count l dC dI x0 rx (xs 1)) (cwV 1 hts (gz_lV lm_35 lm_36 lm_37 lm_4 lm_34 lwGA goodGA) rfl rfl rfl (by decide +kernel) ⟨Nat.le_of_ble_eq_true rfl, Nat.le_of_ble_eq_true rfl⟩) ⟨fun a U g mk q => by obtain ⟨q0, qP, qK⟩ := q; exact ⟨q0, qP, va_K.moved (u := U) (U := U.calling g mk a) (Vm.Alike.refl U.vm) qK⟩, va_recv hKc hPc (ci := 11) (q0 := 0) rfl rfl, fun U hU hW => ⟨rfl, by rw [hU]; exact hPc, va_K.moved hW.alike hKc⟩⟩ rfl rfl hl.1 rfl (lv_room (Nat.le_of_ble_eq_true rfl)) dL_law_392 ⟨Nat.le_of_ble_eq_true rfl, Nat.le_of_ble_eq_true rfl⟩) hS (fun q _ h => h.elim) (fun q h => h.elim) (fun r_1 u t H1 locs ht hvm hw hB hz1 hk1 hS => ?_)
  have hP := gz_keep hP hk1
  generalize H1 = H at hP hS ⊢
  subst hw
  refine lv_aload_n hx hb dL_law_395 rfl (lv_at hl 2 rfl) ?_
  refine lv_aload_n hx hb dL_law_396 rfl (lv_at hl 0 rfl) ?_
  refine lv_iload_n hx hb dL_law_397 rfl (lv_at hl 3 rfl) ?_
  refine lv_iconst (v := 1) hx hb dL_law_398 (by decide) ?_
  refine lv_iadd hx hb dL_law_399 ?_
  refine gz_topi (y := 1) (by decide) ?_
  refine va_sld hx hb hX hbl hbA hS (by unfold vp_in; decide) dL_law_400 ?_
  refine gz_topi (y := xs 1) (congrArg xs (by decide)) ?_
  have hPc := hP.sub (ws' := [(m0, .inr (12, fsM rm))]) [6] rfl
  have hKc := hK.sub (tys' := []) [] rfl
  refine va_calli (va_runV (As := [.int (xs 1)]) (rest := [.int (gz_count (xs 1))]) ⟨hx, hb, hml, hown, hts⟩ (fX12_count l dC dI m0 rm (xs 1)) (cwV 1 hts (gz_lV lm_39 lm_40 lm_41 lm_9 lm_38 lwGB goodGB) rfl rfl rfl (by decide +kernel) ⟨Nat.le_of_ble_eq_true rfl, Nat.le_of_ble_eq_true rfl⟩) ⟨fun a U g mk q => by obtain ⟨q0, qP, qK⟩ := q; exact ⟨q0, qP, va_K.moved (u := U) (U := U.calling g mk a) (Vm.Alike.refl U.vm) qK⟩, va_recv hKc hPc (ci := 12) (q0 := 0) rfl rfl, fun U hU hW => ⟨rfl, by rw [hU]; exact hPc, va_K.moved hW.alike hKc⟩⟩ rfl rfl hl.1 rfl (lv_room (Nat.le_of_ble_eq_true rfl)) dL_law_401 ⟨Nat.le_of_ble_eq_true rfl, Nat.le_of_ble_eq_true rfl⟩) hS (fun q _ h => h.elim) (fun q h => h.elim) (fun r_2 u t H1 locs ht hvm hw hB hz1 hk1 hS => ?_)
  have hP := gz_keep hP hk1
  generalize H1 = H at hP hS ⊢
  subst hw
  refine lv_icmp_eq (tgt := 2056) hx hb dL_law_404 (by decide) (fun c_3 => ?_) (fun c_3 => absurd rfl c_3)
  exact law_tail C0 (Nat.le_of_ble_eq_true rfl) (Nat.le_of_ble_eq_true rfl) hS (lv_sub hl [0, 3] rfl)
set_option maxHeartbeats 4000000 in
set_option maxRecDepth 100000 in
theorem law_c5 {p : Program} {l : Launch} {e : Env} {s : State} {m : MethodId} {below : List Frame} {meth : Method} {c : Code} {dC : Nat → ClassId} {dI : Nat → Nat → Nat} {b : Nat} {xs : Nat → Int32} (C0 : lw_At p s m meth c b 6 xs) {x0 m0 : Nat} {rx rm : Nat → Nat} {k1 : ClassId} {kf : Nat → ClassId} {H : Heap} {locs : List Loc} {ls : Array Slot} (hK : va_K (dC, dI) vwCl (law_T k1 kf) s) (hP : va_P (dC, dI) vwCl (law_W x0 m0 rx rm k1 kf) H) (hD : va_D (fun q : Nat => s.heap.size ≤ q) (law_W x0 m0 rx rm k1 kf)) (hS : va_S (fun q : Nat => s.heap.size ≤ q) s.heap H locs) (hl : lv_has ls 4 [(0, .ref b), (1, .ref x0), (2, .ref m0), (3, .int 0)]) : W p l e room_1 s m #[Value.ref b] below meth c H locs 1000 100000 (lw_Z below #[Value.ref b] s) (F0 m 409 ls []) := by
  obtain ⟨hx, hb, hr, hml, hown0, hts, hX, hbl, hlocks, hgv⟩ := id C0
  have hown : s.vm.findClass RL = some m.cls := hown0
  have hA : ∀ q : Nat, s.heap.size ≤ q → (fun q : Nat => s.heap.size ≤ q) q := fun _ h => h
  have hbA : ¬ (fun q : Nat => s.heap.size ≤ q) b := Nat.not_le.mpr hbl
  have hK : va_K (dC, dI) vwCl [(k1, .byte), ((kf 0), .int), ((kf 1), .int), ((kf 2), .int), ((kf 3), .int), ((kf 5), .int), ((kf 6), .int), ((kf 7), .int), ((kf 8), .int), ((kf 9), .int), ((kf 10), .int), ((kf 11), .int), ((kf 4), .boolean), ((kf 12), .int), ((kf 13), .int)] s := hK
  have hP : va_P (dC, dI) vwCl [(x0, .inr (11, fsX rx)), ((rx 0), .inr (6, fsR rx)), ((rx 11), .inr (10, fsT rx)), ((rx 13), .inl (k1, 1600, .inl (fun _ => 0))), ((rx 12), .inr (0, fsD rx)), ((rx 1), .inr (0, fsA rx)), (m0, .inr (12, fsM rm)), ((rm 0), .inl ((kf 0), 6, .inl (fun _ => 0))), ((rm 1), .inl ((kf 1), 36, .inl (fun _ => 0))), ((rm 2), .inl ((kf 2), 24, .inl (fun _ => 0))), ((rm 3), .inl ((kf 3), 24, .inl (fun _ => 0))), ((rm 5), .inl ((kf 5), 24, .inl (fun _ => 0))), ((rm 6), .inl ((kf 6), 24, .inl (fun _ => 0))), ((rm 7), .inl ((kf 7), 24, .inl (fun _ => 0))), ((rm 8), .inl ((kf 8), 8, .inl (fun _ => 0))), ((rm 9), .inl ((kf 9), 8, .inl (fun _ => 0))), ((rm 10), .inl ((kf 10), 8, .inl (fun _ => 0))), ((rm 11), .inl ((kf 11), 8, .inl (fun _ => 0))), ((rm 4), .inl ((kf 4), 24, .inl (fun _ => 0))), ((rm 12), .inl ((kf 12), 300, .inl (fun _ => 0))), ((rm 13), .inl ((kf 13), 1600, .inl (fun _ => 0)))] H := hP
  have hD : va_D (fun q : Nat => s.heap.size ≤ q) [(x0, .inr (11, fsX rx)), ((rx 0), .inr (6, fsR rx)), ((rx 11), .inr (10, fsT rx)), ((rx 13), .inl (k1, 1600, .inl (fun _ => 0))), ((rx 12), .inr (0, fsD rx)), ((rx 1), .inr (0, fsA rx)), (m0, .inr (12, fsM rm)), ((rm 0), .inl ((kf 0), 6, .inl (fun _ => 0))), ((rm 1), .inl ((kf 1), 36, .inl (fun _ => 0))), ((rm 2), .inl ((kf 2), 24, .inl (fun _ => 0))), ((rm 3), .inl ((kf 3), 24, .inl (fun _ => 0))), ((rm 5), .inl ((kf 5), 24, .inl (fun _ => 0))), ((rm 6), .inl ((kf 6), 24, .inl (fun _ => 0))), ((rm 7), .inl ((kf 7), 24, .inl (fun _ => 0))), ((rm 8), .inl ((kf 8), 8, .inl (fun _ => 0))), ((rm 9), .inl ((kf 9), 8, .inl (fun _ => 0))), ((rm 10), .inl ((kf 10), 8, .inl (fun _ => 0))), ((rm 11), .inl ((kf 11), 8, .inl (fun _ => 0))), ((rm 4), .inl ((kf 4), 24, .inl (fun _ => 0))), ((rm 12), .inl ((kf 12), 300, .inl (fun _ => 0))), ((rm 13), .inl ((kf 13), 1600, .inl (fun _ => 0)))] := hD
  refine lv_aload_n hx hb dL_law_409 rfl (lv_at hl 1 rfl) ?_
  refine lv_aload_n hx hb dL_law_410 rfl (lv_at hl 0 rfl) ?_
  refine lv_iload_n hx hb dL_law_411 rfl (lv_at hl 3 rfl) ?_
  refine lv_iconst (v := 1) hx hb dL_law_412 (by decide) ?_
  refine lv_iadd hx hb dL_law_413 ?_
  refine gz_topi (y := 1) (by decide) ?_
  refine va_sld hx hb hX hbl hbA hS (by unfold vp_in; decide) dL_law_414 ?_
  refine gz_topi (y := xs 1) (congrArg xs (by decide)) ?_
  refine lv_aload_n hx hb dL_law_415 rfl (lv_at hl 0 rfl) ?_
  refine lv_iload_n hx hb dL_law_416 rfl (lv_at hl 3 rfl) ?_
  refine lv_iconst (v := 2) hx hb dL_law_417 (by decide) ?_
  refine lv_iadd hx hb dL_law_418 ?_
  refine gz_topi (y := 2) (by decide) ?_
  refine va_sld hx hb hX hbl hbA hS (by unfold vp_in; decide) dL_law_419 ?_
  refine gz_topi (y := xs 2) (congrArg xs (by decide)) ?_
  have hPc := hP.sub (ws' := [(x0, .inr (11, fsX rx)), ((rx 1), .inr (0, fsA rx))]) [0, 5] rfl
  have hKc := hK.sub (tys' := []) [] rfl
  refine va_calli (va_runV (As := [.int (xs 1), .int (xs 2)]) (rest := []) ⟨hx, hb, hml, hown, hts⟩ (fX11_place l dC dI x0 rx (xs 1) (xs 2)) (cwV 2 hts (gz_lV lm_43 lm_44 lm_45 lm_4 lm_42 lwGA goodGA) rfl rfl rfl (by decide +kernel) ⟨Nat.le_of_ble_eq_true rfl, Nat.le_of_ble_eq_true rfl⟩) ⟨fun a U g mk q => by obtain ⟨q0, qP, qK⟩ := q; exact ⟨q0, qP, va_K.moved (u := U) (U := U.calling g mk a) (Vm.Alike.refl U.vm) qK⟩, va_recv hKc hPc (ci := 11) (q0 := 0) rfl rfl, fun U hU hW => ⟨rfl, by rw [hU]; exact hPc, va_K.moved hW.alike hKc⟩⟩ rfl rfl hl.1 rfl (lv_room (Nat.le_of_ble_eq_true rfl)) dL_law_420 ⟨Nat.le_of_ble_eq_true rfl, Nat.le_of_ble_eq_true rfl⟩) hS (fun q _ h => h.elim) (fun q h => h.elim) (fun r_1 u t H1 locs ht hvm hw hB hz1 hk1 hS => ?_)
  have hP := gz_keep hP hk1
  generalize H1 = H at hP hS ⊢
  subst hw
  refine lv_aload_n hx hb dL_law_423 rfl (lv_at hl 2 rfl) ?_
  refine lv_aload_n hx hb dL_law_424 rfl (lv_at hl 0 rfl) ?_
  refine lv_iload_n hx hb dL_law_425 rfl (lv_at hl 3 rfl) ?_
  refine lv_iconst (v := 1) hx hb dL_law_426 (by decide) ?_
  refine lv_iadd hx hb dL_law_427 ?_
  refine gz_topi (y := 1) (by decide) ?_
  refine va_sld hx hb hX hbl hbA hS (by unfold vp_in; decide) dL_law_428 ?_
  refine gz_topi (y := xs 1) (congrArg xs (by decide)) ?_
  refine lv_aload_n hx hb dL_law_429 rfl (lv_at hl 0 rfl) ?_
  refine lv_iload_n hx hb dL_law_430 rfl (lv_at hl 3 rfl) ?_
  refine lv_iconst (v := 2) hx hb dL_law_431 (by decide) ?_
  refine lv_iadd hx hb dL_law_432 ?_
  refine gz_topi (y := 2) (by decide) ?_
  refine va_sld hx hb hX hbl hbA hS (by unfold vp_in; decide) dL_law_433 ?_
  refine gz_topi (y := xs 2) (congrArg xs (by decide)) ?_
  have hPc := hP.sub (ws' := [(m0, .inr (12, fsM rm))]) [6] rfl
  have hKc := hK.sub (tys' := []) [] rfl
  refine va_calli (va_runV (As := [.int (xs 1), .int (xs 2)]) (rest := [.int (-2)]) ⟨hx, hb, hml, hown, hts⟩ (fX12_place l dC dI m0 rm (xs 1) (xs 2)) (cwV 2 hts (gz_lV lm_47 lm_48 lm_49 lm_9 lm_46 lwGB goodGB) rfl rfl rfl (by decide +kernel) ⟨Nat.le_of_ble_eq_true rfl, Nat.le_of_ble_eq_true rfl⟩) ⟨fun a U g mk q => by obtain ⟨q0, qP, qK⟩ := q; exact ⟨q0, qP, va_K.moved (u := U) (U := U.calling g mk a) (Vm.Alike.refl U.vm) qK⟩, va_recv hKc hPc (ci := 12) (q0 := 0) rfl rfl, fun U hU hW => ⟨rfl, by rw [hU]; exact hPc, va_K.moved hW.alike hKc⟩⟩ rfl rfl hl.1 rfl (lv_room (Nat.le_of_ble_eq_true rfl)) dL_law_434 ⟨Nat.le_of_ble_eq_true rfl, Nat.le_of_ble_eq_true rfl⟩) hS (fun q _ h => h.elim) (fun q h => h.elim) (fun r_2 u t H1 locs ht hvm hw hB hz1 hk1 hS => ?_)
  have hP := gz_keep hP hk1
  generalize H1 = H at hP hS ⊢
  subst hw
  refine lv_icmp_eq (tgt := 2056) hx hb dL_law_437 (by decide) (fun c_3 => ?_) (fun c_3 => absurd (by decide) c_3)
  exact law_tail C0 (Nat.le_of_ble_eq_true rfl) (Nat.le_of_ble_eq_true rfl) hS (lv_sub hl [0, 3] rfl)
set_option maxHeartbeats 4000000 in
set_option maxRecDepth 100000 in
theorem law_c6 {p : Program} {l : Launch} {e : Env} {s : State} {m : MethodId} {below : List Frame} {meth : Method} {c : Code} {dC : Nat → ClassId} {dI : Nat → Nat → Nat} {b : Nat} {xs : Nat → Int32} (C0 : lw_At p s m meth c b 6 xs) {x0 m0 : Nat} {rx rm : Nat → Nat} {k1 : ClassId} {kf : Nat → ClassId} {H : Heap} {locs : List Loc} {ls : Array Slot} (hK : va_K (dC, dI) vwCl (law_T k1 kf) s) (hP : va_P (dC, dI) vwCl (law_W x0 m0 rx rm k1 kf) H) (hD : va_D (fun q : Nat => s.heap.size ≤ q) (law_W x0 m0 rx rm k1 kf)) (hS : va_S (fun q : Nat => s.heap.size ≤ q) s.heap H locs) (hl : lv_has ls 4 [(0, .ref b), (1, .ref x0), (2, .ref m0), (3, .int 0)]) : W p l e room_1 s m #[Value.ref b] below meth c H locs 1000 100000 (lw_Z below #[Value.ref b] s) (F0 m 442 ls []) := by
  obtain ⟨hx, hb, hr, hml, hown0, hts, hX, hbl, hlocks, hgv⟩ := id C0
  have hown : s.vm.findClass RL = some m.cls := hown0
  have hA : ∀ q : Nat, s.heap.size ≤ q → (fun q : Nat => s.heap.size ≤ q) q := fun _ h => h
  have hbA : ¬ (fun q : Nat => s.heap.size ≤ q) b := Nat.not_le.mpr hbl
  have hK : va_K (dC, dI) vwCl [(k1, .byte), ((kf 0), .int), ((kf 1), .int), ((kf 2), .int), ((kf 3), .int), ((kf 5), .int), ((kf 6), .int), ((kf 7), .int), ((kf 8), .int), ((kf 9), .int), ((kf 10), .int), ((kf 11), .int), ((kf 4), .boolean), ((kf 12), .int), ((kf 13), .int)] s := hK
  have hP : va_P (dC, dI) vwCl [(x0, .inr (11, fsX rx)), ((rx 0), .inr (6, fsR rx)), ((rx 11), .inr (10, fsT rx)), ((rx 13), .inl (k1, 1600, .inl (fun _ => 0))), ((rx 12), .inr (0, fsD rx)), ((rx 1), .inr (0, fsA rx)), (m0, .inr (12, fsM rm)), ((rm 0), .inl ((kf 0), 6, .inl (fun _ => 0))), ((rm 1), .inl ((kf 1), 36, .inl (fun _ => 0))), ((rm 2), .inl ((kf 2), 24, .inl (fun _ => 0))), ((rm 3), .inl ((kf 3), 24, .inl (fun _ => 0))), ((rm 5), .inl ((kf 5), 24, .inl (fun _ => 0))), ((rm 6), .inl ((kf 6), 24, .inl (fun _ => 0))), ((rm 7), .inl ((kf 7), 24, .inl (fun _ => 0))), ((rm 8), .inl ((kf 8), 8, .inl (fun _ => 0))), ((rm 9), .inl ((kf 9), 8, .inl (fun _ => 0))), ((rm 10), .inl ((kf 10), 8, .inl (fun _ => 0))), ((rm 11), .inl ((kf 11), 8, .inl (fun _ => 0))), ((rm 4), .inl ((kf 4), 24, .inl (fun _ => 0))), ((rm 12), .inl ((kf 12), 300, .inl (fun _ => 0))), ((rm 13), .inl ((kf 13), 1600, .inl (fun _ => 0)))] H := hP
  have hD : va_D (fun q : Nat => s.heap.size ≤ q) [(x0, .inr (11, fsX rx)), ((rx 0), .inr (6, fsR rx)), ((rx 11), .inr (10, fsT rx)), ((rx 13), .inl (k1, 1600, .inl (fun _ => 0))), ((rx 12), .inr (0, fsD rx)), ((rx 1), .inr (0, fsA rx)), (m0, .inr (12, fsM rm)), ((rm 0), .inl ((kf 0), 6, .inl (fun _ => 0))), ((rm 1), .inl ((kf 1), 36, .inl (fun _ => 0))), ((rm 2), .inl ((kf 2), 24, .inl (fun _ => 0))), ((rm 3), .inl ((kf 3), 24, .inl (fun _ => 0))), ((rm 5), .inl ((kf 5), 24, .inl (fun _ => 0))), ((rm 6), .inl ((kf 6), 24, .inl (fun _ => 0))), ((rm 7), .inl ((kf 7), 24, .inl (fun _ => 0))), ((rm 8), .inl ((kf 8), 8, .inl (fun _ => 0))), ((rm 9), .inl ((kf 9), 8, .inl (fun _ => 0))), ((rm 10), .inl ((kf 10), 8, .inl (fun _ => 0))), ((rm 11), .inl ((kf 11), 8, .inl (fun _ => 0))), ((rm 4), .inl ((kf 4), 24, .inl (fun _ => 0))), ((rm 12), .inl ((kf 12), 300, .inl (fun _ => 0))), ((rm 13), .inl ((kf 13), 1600, .inl (fun _ => 0)))] := hD
  refine lv_aload_n hx hb dL_law_442 rfl (lv_at hl 1 rfl) ?_
  refine lv_aload_n hx hb dL_law_443 rfl (lv_at hl 0 rfl) ?_
  refine lv_iload_n hx hb dL_law_444 rfl (lv_at hl 3 rfl) ?_
  refine lv_iconst (v := 1) hx hb dL_law_445 (by decide) ?_
  refine lv_iadd hx hb dL_law_446 ?_
  refine gz_topi (y := 1) (by decide) ?_
  refine va_sld hx hb hX hbl hbA hS (by unfold vp_in; decide) dL_law_447 ?_
  refine gz_topi (y := xs 1) (congrArg xs (by decide)) ?_
  refine lv_aload_n hx hb dL_law_448 rfl (lv_at hl 0 rfl) ?_
  refine lv_iload_n hx hb dL_law_449 rfl (lv_at hl 3 rfl) ?_
  refine lv_iconst (v := 2) hx hb dL_law_450 (by decide) ?_
  refine lv_iadd hx hb dL_law_451 ?_
  refine gz_topi (y := 2) (by decide) ?_
  refine va_sld hx hb hX hbl hbA hS (by unfold vp_in; decide) dL_law_452 ?_
  refine gz_topi (y := xs 2) (congrArg xs (by decide)) ?_
  have hPc := hP.sub (ws' := [(x0, .inr (11, fsX rx)), ((rx 1), .inr (0, fsA rx))]) [0, 5] rfl
  have hKc := hK.sub (tys' := []) [] rfl
  refine va_calli (va_runV (As := [.int (xs 1), .int (xs 2)]) (rest := []) ⟨hx, hb, hml, hown, hts⟩ (fX11_report l dC dI x0 rx (xs 1) (xs 2)) (cwV 2 hts (gz_lV lm_51 lm_52 lm_53 lm_4 lm_50 lwGA goodGA) rfl rfl rfl (by decide +kernel) ⟨Nat.le_of_ble_eq_true rfl, Nat.le_of_ble_eq_true rfl⟩) ⟨fun a U g mk q => by obtain ⟨q0, qP, qK⟩ := q; exact ⟨q0, qP, va_K.moved (u := U) (U := U.calling g mk a) (Vm.Alike.refl U.vm) qK⟩, va_recv hKc hPc (ci := 11) (q0 := 0) rfl rfl, fun U hU hW => ⟨rfl, by rw [hU]; exact hPc, va_K.moved hW.alike hKc⟩⟩ rfl rfl hl.1 rfl (lv_room (Nat.le_of_ble_eq_true rfl)) dL_law_453 ⟨Nat.le_of_ble_eq_true rfl, Nat.le_of_ble_eq_true rfl⟩) hS (fun q _ h => h.elim) (fun q h => h.elim) (fun r_1 u t H1 locs ht hvm hw hB hz1 hk1 hS => ?_)
  have hP := gz_keep hP hk1
  generalize H1 = H at hP hS ⊢
  subst hw
  refine lv_aload_n hx hb dL_law_456 rfl (lv_at hl 2 rfl) ?_
  refine lv_aload_n hx hb dL_law_457 rfl (lv_at hl 0 rfl) ?_
  refine lv_iload_n hx hb dL_law_458 rfl (lv_at hl 3 rfl) ?_
  refine lv_iconst (v := 1) hx hb dL_law_459 (by decide) ?_
  refine lv_iadd hx hb dL_law_460 ?_
  refine gz_topi (y := 1) (by decide) ?_
  refine va_sld hx hb hX hbl hbA hS (by unfold vp_in; decide) dL_law_461 ?_
  refine gz_topi (y := xs 1) (congrArg xs (by decide)) ?_
  refine lv_aload_n hx hb dL_law_462 rfl (lv_at hl 0 rfl) ?_
  refine lv_iload_n hx hb dL_law_463 rfl (lv_at hl 3 rfl) ?_
  refine lv_iconst (v := 2) hx hb dL_law_464 (by decide) ?_
  refine lv_iadd hx hb dL_law_465 ?_
  refine gz_topi (y := 2) (by decide) ?_
  refine va_sld hx hb hX hbl hbA hS (by unfold vp_in; decide) dL_law_466 ?_
  refine gz_topi (y := xs 2) (congrArg xs (by decide)) ?_
  have hPc := hP.sub (ws' := [(m0, .inr (12, fsM rm))]) [6] rfl
  have hKc := hK.sub (tys' := []) [] rfl
  refine va_calli (va_runV (As := [.int (xs 1), .int (xs 2)]) (rest := [.int (-2)]) ⟨hx, hb, hml, hown, hts⟩ (fX12_report l dC dI m0 rm (xs 1) (xs 2)) (cwV 2 hts (gz_lV lm_55 lm_56 lm_57 lm_9 lm_54 lwGB goodGB) rfl rfl rfl (by decide +kernel) ⟨Nat.le_of_ble_eq_true rfl, Nat.le_of_ble_eq_true rfl⟩) ⟨fun a U g mk q => by obtain ⟨q0, qP, qK⟩ := q; exact ⟨q0, qP, va_K.moved (u := U) (U := U.calling g mk a) (Vm.Alike.refl U.vm) qK⟩, va_recv hKc hPc (ci := 12) (q0 := 0) rfl rfl, fun U hU hW => ⟨rfl, by rw [hU]; exact hPc, va_K.moved hW.alike hKc⟩⟩ rfl rfl hl.1 rfl (lv_room (Nat.le_of_ble_eq_true rfl)) dL_law_467 ⟨Nat.le_of_ble_eq_true rfl, Nat.le_of_ble_eq_true rfl⟩) hS (fun q _ h => h.elim) (fun q h => h.elim) (fun r_2 u t H1 locs ht hvm hw hB hz1 hk1 hS => ?_)
  have hP := gz_keep hP hk1
  generalize H1 = H at hP hS ⊢
  subst hw
  refine lv_icmp_eq (tgt := 2056) hx hb dL_law_470 (by decide) (fun c_3 => ?_) (fun c_3 => absurd (by decide) c_3)
  exact law_tail C0 (Nat.le_of_ble_eq_true rfl) (Nat.le_of_ble_eq_true rfl) hS (lv_sub hl [0, 3] rfl)
set_option maxHeartbeats 4000000 in
set_option maxRecDepth 100000 in
theorem law_c7 {p : Program} {l : Launch} {e : Env} {s : State} {m : MethodId} {below : List Frame} {meth : Method} {c : Code} {dC : Nat → ClassId} {dI : Nat → Nat → Nat} {b : Nat} {xs : Nat → Int32} (C0 : lw_At p s m meth c b 6 xs) {x0 m0 : Nat} {rx rm : Nat → Nat} {k1 : ClassId} {kf : Nat → ClassId} {H : Heap} {locs : List Loc} {ls : Array Slot} (hK : va_K (dC, dI) vwCl (law_T k1 kf) s) (hP : va_P (dC, dI) vwCl (law_W x0 m0 rx rm k1 kf) H) (hD : va_D (fun q : Nat => s.heap.size ≤ q) (law_W x0 m0 rx rm k1 kf)) (hS : va_S (fun q : Nat => s.heap.size ≤ q) s.heap H locs) (hl : lv_has ls 4 [(0, .ref b), (1, .ref x0), (2, .ref m0), (3, .int 0)]) : W p l e room_1 s m #[Value.ref b] below meth c H locs 1000 100000 (lw_Z below #[Value.ref b] s) (F0 m 475 ls []) := by
  obtain ⟨hx, hb, hr, hml, hown0, hts, hX, hbl, hlocks, hgv⟩ := id C0
  have hown : s.vm.findClass RL = some m.cls := hown0
  have hA : ∀ q : Nat, s.heap.size ≤ q → (fun q : Nat => s.heap.size ≤ q) q := fun _ h => h
  have hbA : ¬ (fun q : Nat => s.heap.size ≤ q) b := Nat.not_le.mpr hbl
  have hK : va_K (dC, dI) vwCl [(k1, .byte), ((kf 0), .int), ((kf 1), .int), ((kf 2), .int), ((kf 3), .int), ((kf 5), .int), ((kf 6), .int), ((kf 7), .int), ((kf 8), .int), ((kf 9), .int), ((kf 10), .int), ((kf 11), .int), ((kf 4), .boolean), ((kf 12), .int), ((kf 13), .int)] s := hK
  have hP : va_P (dC, dI) vwCl [(x0, .inr (11, fsX rx)), ((rx 0), .inr (6, fsR rx)), ((rx 11), .inr (10, fsT rx)), ((rx 13), .inl (k1, 1600, .inl (fun _ => 0))), ((rx 12), .inr (0, fsD rx)), ((rx 1), .inr (0, fsA rx)), (m0, .inr (12, fsM rm)), ((rm 0), .inl ((kf 0), 6, .inl (fun _ => 0))), ((rm 1), .inl ((kf 1), 36, .inl (fun _ => 0))), ((rm 2), .inl ((kf 2), 24, .inl (fun _ => 0))), ((rm 3), .inl ((kf 3), 24, .inl (fun _ => 0))), ((rm 5), .inl ((kf 5), 24, .inl (fun _ => 0))), ((rm 6), .inl ((kf 6), 24, .inl (fun _ => 0))), ((rm 7), .inl ((kf 7), 24, .inl (fun _ => 0))), ((rm 8), .inl ((kf 8), 8, .inl (fun _ => 0))), ((rm 9), .inl ((kf 9), 8, .inl (fun _ => 0))), ((rm 10), .inl ((kf 10), 8, .inl (fun _ => 0))), ((rm 11), .inl ((kf 11), 8, .inl (fun _ => 0))), ((rm 4), .inl ((kf 4), 24, .inl (fun _ => 0))), ((rm 12), .inl ((kf 12), 300, .inl (fun _ => 0))), ((rm 13), .inl ((kf 13), 1600, .inl (fun _ => 0)))] H := hP
  have hD : va_D (fun q : Nat => s.heap.size ≤ q) [(x0, .inr (11, fsX rx)), ((rx 0), .inr (6, fsR rx)), ((rx 11), .inr (10, fsT rx)), ((rx 13), .inl (k1, 1600, .inl (fun _ => 0))), ((rx 12), .inr (0, fsD rx)), ((rx 1), .inr (0, fsA rx)), (m0, .inr (12, fsM rm)), ((rm 0), .inl ((kf 0), 6, .inl (fun _ => 0))), ((rm 1), .inl ((kf 1), 36, .inl (fun _ => 0))), ((rm 2), .inl ((kf 2), 24, .inl (fun _ => 0))), ((rm 3), .inl ((kf 3), 24, .inl (fun _ => 0))), ((rm 5), .inl ((kf 5), 24, .inl (fun _ => 0))), ((rm 6), .inl ((kf 6), 24, .inl (fun _ => 0))), ((rm 7), .inl ((kf 7), 24, .inl (fun _ => 0))), ((rm 8), .inl ((kf 8), 8, .inl (fun _ => 0))), ((rm 9), .inl ((kf 9), 8, .inl (fun _ => 0))), ((rm 10), .inl ((kf 10), 8, .inl (fun _ => 0))), ((rm 11), .inl ((kf 11), 8, .inl (fun _ => 0))), ((rm 4), .inl ((kf 4), 24, .inl (fun _ => 0))), ((rm 12), .inl ((kf 12), 300, .inl (fun _ => 0))), ((rm 13), .inl ((kf 13), 1600, .inl (fun _ => 0)))] := hD
  refine lv_aload_n hx hb dL_law_475 rfl (lv_at hl 1 rfl) ?_
  refine lv_aload_n hx hb dL_law_476 rfl (lv_at hl 0 rfl) ?_
  refine lv_iload_n hx hb dL_law_477 rfl (lv_at hl 3 rfl) ?_
  refine lv_iconst (v := 1) hx hb dL_law_478 (by decide) ?_
  refine lv_iadd hx hb dL_law_479 ?_
  refine gz_topi (y := 1) (by decide) ?_
  refine va_sld hx hb hX hbl hbA hS (by unfold vp_in; decide) dL_law_480 ?_
  refine gz_topi (y := xs 1) (congrArg xs (by decide)) ?_
  refine lv_aload_n hx hb dL_law_481 rfl (lv_at hl 0 rfl) ?_
  refine lv_iload_n hx hb dL_law_482 rfl (lv_at hl 3 rfl) ?_
  refine lv_iconst (v := 2) hx hb dL_law_483 (by decide) ?_
  refine lv_iadd hx hb dL_law_484 ?_
  refine gz_topi (y := 2) (by decide) ?_
  refine va_sld hx hb hX hbl hbA hS (by unfold vp_in; decide) dL_law_485 ?_
  refine gz_topi (y := xs 2) (congrArg xs (by decide)) ?_
  have hPc := hP.sub (ws' := [(x0, .inr (11, fsX rx)), ((rx 1), .inr (0, fsA rx))]) [0, 5] rfl
  have hKc := hK.sub (tys' := []) [] rfl
  refine va_calli (va_runV (As := [.int (xs 1), .int (xs 2)]) (rest := []) ⟨hx, hb, hml, hown, hts⟩ (fX11_deed l dC dI x0 rx (xs 1) (xs 2)) (cwV 2 hts (gz_lV lm_59 lm_60 lm_61 lm_4 lm_58 lwGA goodGA) rfl rfl rfl (by decide +kernel) ⟨Nat.le_of_ble_eq_true rfl, Nat.le_of_ble_eq_true rfl⟩) ⟨fun a U g mk q => by obtain ⟨q0, qP, qK⟩ := q; exact ⟨q0, qP, va_K.moved (u := U) (U := U.calling g mk a) (Vm.Alike.refl U.vm) qK⟩, va_recv hKc hPc (ci := 11) (q0 := 0) rfl rfl, fun U hU hW => ⟨rfl, by rw [hU]; exact hPc, va_K.moved hW.alike hKc⟩⟩ rfl rfl hl.1 rfl (lv_room (Nat.le_of_ble_eq_true rfl)) dL_law_486 ⟨Nat.le_of_ble_eq_true rfl, Nat.le_of_ble_eq_true rfl⟩) hS (fun q _ h => h.elim) (fun q h => h.elim) (fun r_1 u t H1 locs ht hvm hw hB hz1 hk1 hS => ?_)
  have hP := gz_keep hP hk1
  generalize H1 = H at hP hS ⊢
  subst hw
  refine lv_aload_n hx hb dL_law_489 rfl (lv_at hl 2 rfl) ?_
  refine lv_aload_n hx hb dL_law_490 rfl (lv_at hl 0 rfl) ?_
  refine lv_iload_n hx hb dL_law_491 rfl (lv_at hl 3 rfl) ?_
  refine lv_iconst (v := 1) hx hb dL_law_492 (by decide) ?_
  refine lv_iadd hx hb dL_law_493 ?_
  refine gz_topi (y := 1) (by decide) ?_
  refine va_sld hx hb hX hbl hbA hS (by unfold vp_in; decide) dL_law_494 ?_
  refine gz_topi (y := xs 1) (congrArg xs (by decide)) ?_
  refine lv_aload_n hx hb dL_law_495 rfl (lv_at hl 0 rfl) ?_
  refine lv_iload_n hx hb dL_law_496 rfl (lv_at hl 3 rfl) ?_
  refine lv_iconst (v := 2) hx hb dL_law_497 (by decide) ?_
  refine lv_iadd hx hb dL_law_498 ?_
  refine gz_topi (y := 2) (by decide) ?_
  refine va_sld hx hb hX hbl hbA hS (by unfold vp_in; decide) dL_law_499 ?_
  refine gz_topi (y := xs 2) (congrArg xs (by decide)) ?_
  have hPc := hP.sub (ws' := [(m0, .inr (12, fsM rm))]) [6] rfl
  have hKc := hK.sub (tys' := []) [] rfl
  refine va_calli (va_runV (As := [.int (xs 1), .int (xs 2)]) (rest := [.int (-2)]) ⟨hx, hb, hml, hown, hts⟩ (fX12_deed l dC dI m0 rm (xs 1) (xs 2)) (cwV 2 hts (gz_lV lm_63 lm_64 lm_65 lm_9 lm_62 lwGB goodGB) rfl rfl rfl (by decide +kernel) ⟨Nat.le_of_ble_eq_true rfl, Nat.le_of_ble_eq_true rfl⟩) ⟨fun a U g mk q => by obtain ⟨q0, qP, qK⟩ := q; exact ⟨q0, qP, va_K.moved (u := U) (U := U.calling g mk a) (Vm.Alike.refl U.vm) qK⟩, va_recv hKc hPc (ci := 12) (q0 := 0) rfl rfl, fun U hU hW => ⟨rfl, by rw [hU]; exact hPc, va_K.moved hW.alike hKc⟩⟩ rfl rfl hl.1 rfl (lv_room (Nat.le_of_ble_eq_true rfl)) dL_law_500 ⟨Nat.le_of_ble_eq_true rfl, Nat.le_of_ble_eq_true rfl⟩) hS (fun q _ h => h.elim) (fun q h => h.elim) (fun r_2 u t H1 locs ht hvm hw hB hz1 hk1 hS => ?_)
  have hP := gz_keep hP hk1
  generalize H1 = H at hP hS ⊢
  subst hw
  refine lv_icmp_eq (tgt := 2056) hx hb dL_law_503 (by decide) (fun c_3 => ?_) (fun c_3 => absurd (by decide) c_3)
  exact law_tail C0 (Nat.le_of_ble_eq_true rfl) (Nat.le_of_ble_eq_true rfl) hS (lv_sub hl [0, 3] rfl)
set_option maxHeartbeats 4000000 in
set_option maxRecDepth 100000 in
theorem law_c8 {p : Program} {l : Launch} {e : Env} {s : State} {m : MethodId} {below : List Frame} {meth : Method} {c : Code} {dC : Nat → ClassId} {dI : Nat → Nat → Nat} {b : Nat} {xs : Nat → Int32} (C0 : lw_At p s m meth c b 6 xs) {x0 m0 : Nat} {rx rm : Nat → Nat} {k1 : ClassId} {kf : Nat → ClassId} {H : Heap} {locs : List Loc} {ls : Array Slot} (hK : va_K (dC, dI) vwCl (law_T k1 kf) s) (hP : va_P (dC, dI) vwCl (law_W x0 m0 rx rm k1 kf) H) (hD : va_D (fun q : Nat => s.heap.size ≤ q) (law_W x0 m0 rx rm k1 kf)) (hS : va_S (fun q : Nat => s.heap.size ≤ q) s.heap H locs) (hl : lv_has ls 4 [(0, .ref b), (1, .ref x0), (2, .ref m0), (3, .int 0)]) : W p l e room_1 s m #[Value.ref b] below meth c H locs 1000 100000 (lw_Z below #[Value.ref b] s) (F0 m 508 ls []) := by
  obtain ⟨hx, hb, hr, hml, hown0, hts, hX, hbl, hlocks, hgv⟩ := id C0
  have hown : s.vm.findClass RL = some m.cls := hown0
  have hA : ∀ q : Nat, s.heap.size ≤ q → (fun q : Nat => s.heap.size ≤ q) q := fun _ h => h
  have hbA : ¬ (fun q : Nat => s.heap.size ≤ q) b := Nat.not_le.mpr hbl
  have hK : va_K (dC, dI) vwCl [(k1, .byte), ((kf 0), .int), ((kf 1), .int), ((kf 2), .int), ((kf 3), .int), ((kf 5), .int), ((kf 6), .int), ((kf 7), .int), ((kf 8), .int), ((kf 9), .int), ((kf 10), .int), ((kf 11), .int), ((kf 4), .boolean), ((kf 12), .int), ((kf 13), .int)] s := hK
  have hP : va_P (dC, dI) vwCl [(x0, .inr (11, fsX rx)), ((rx 0), .inr (6, fsR rx)), ((rx 11), .inr (10, fsT rx)), ((rx 13), .inl (k1, 1600, .inl (fun _ => 0))), ((rx 12), .inr (0, fsD rx)), ((rx 1), .inr (0, fsA rx)), (m0, .inr (12, fsM rm)), ((rm 0), .inl ((kf 0), 6, .inl (fun _ => 0))), ((rm 1), .inl ((kf 1), 36, .inl (fun _ => 0))), ((rm 2), .inl ((kf 2), 24, .inl (fun _ => 0))), ((rm 3), .inl ((kf 3), 24, .inl (fun _ => 0))), ((rm 5), .inl ((kf 5), 24, .inl (fun _ => 0))), ((rm 6), .inl ((kf 6), 24, .inl (fun _ => 0))), ((rm 7), .inl ((kf 7), 24, .inl (fun _ => 0))), ((rm 8), .inl ((kf 8), 8, .inl (fun _ => 0))), ((rm 9), .inl ((kf 9), 8, .inl (fun _ => 0))), ((rm 10), .inl ((kf 10), 8, .inl (fun _ => 0))), ((rm 11), .inl ((kf 11), 8, .inl (fun _ => 0))), ((rm 4), .inl ((kf 4), 24, .inl (fun _ => 0))), ((rm 12), .inl ((kf 12), 300, .inl (fun _ => 0))), ((rm 13), .inl ((kf 13), 1600, .inl (fun _ => 0)))] H := hP
  have hD : va_D (fun q : Nat => s.heap.size ≤ q) [(x0, .inr (11, fsX rx)), ((rx 0), .inr (6, fsR rx)), ((rx 11), .inr (10, fsT rx)), ((rx 13), .inl (k1, 1600, .inl (fun _ => 0))), ((rx 12), .inr (0, fsD rx)), ((rx 1), .inr (0, fsA rx)), (m0, .inr (12, fsM rm)), ((rm 0), .inl ((kf 0), 6, .inl (fun _ => 0))), ((rm 1), .inl ((kf 1), 36, .inl (fun _ => 0))), ((rm 2), .inl ((kf 2), 24, .inl (fun _ => 0))), ((rm 3), .inl ((kf 3), 24, .inl (fun _ => 0))), ((rm 5), .inl ((kf 5), 24, .inl (fun _ => 0))), ((rm 6), .inl ((kf 6), 24, .inl (fun _ => 0))), ((rm 7), .inl ((kf 7), 24, .inl (fun _ => 0))), ((rm 8), .inl ((kf 8), 8, .inl (fun _ => 0))), ((rm 9), .inl ((kf 9), 8, .inl (fun _ => 0))), ((rm 10), .inl ((kf 10), 8, .inl (fun _ => 0))), ((rm 11), .inl ((kf 11), 8, .inl (fun _ => 0))), ((rm 4), .inl ((kf 4), 24, .inl (fun _ => 0))), ((rm 12), .inl ((kf 12), 300, .inl (fun _ => 0))), ((rm 13), .inl ((kf 13), 1600, .inl (fun _ => 0)))] := hD
  refine lv_aload_n hx hb dL_law_508 rfl (lv_at hl 1 rfl) ?_
  refine lv_aload_n hx hb dL_law_509 rfl (lv_at hl 0 rfl) ?_
  refine lv_iload_n hx hb dL_law_510 rfl (lv_at hl 3 rfl) ?_
  refine lv_iconst (v := 1) hx hb dL_law_511 (by decide) ?_
  refine lv_iadd hx hb dL_law_512 ?_
  refine gz_topi (y := 1) (by decide) ?_
  refine va_sld hx hb hX hbl hbA hS (by unfold vp_in; decide) dL_law_513 ?_
  refine gz_topi (y := xs 1) (congrArg xs (by decide)) ?_
  have hPc := hP.sub (ws' := [(x0, .inr (11, fsX rx)), ((rx 1), .inr (0, fsA rx))]) [0, 5] rfl
  have hKc := hK.sub (tys' := []) [] rfl
  refine va_calli (va_runV (As := [.int (xs 1)]) (rest := []) ⟨hx, hb, hml, hown, hts⟩ (fX11_early l dC dI x0 rx (xs 1)) (cwV 1 hts (gz_lV lm_67 lm_68 lm_69 lm_4 lm_66 lwGA goodGA) rfl rfl rfl (by decide +kernel) ⟨Nat.le_of_ble_eq_true rfl, Nat.le_of_ble_eq_true rfl⟩) ⟨fun a U g mk q => by obtain ⟨q0, qP, qK⟩ := q; exact ⟨q0, qP, va_K.moved (u := U) (U := U.calling g mk a) (Vm.Alike.refl U.vm) qK⟩, va_recv hKc hPc (ci := 11) (q0 := 0) rfl rfl, fun U hU hW => ⟨rfl, by rw [hU]; exact hPc, va_K.moved hW.alike hKc⟩⟩ rfl rfl hl.1 rfl (lv_room (Nat.le_of_ble_eq_true rfl)) dL_law_514 ⟨Nat.le_of_ble_eq_true rfl, Nat.le_of_ble_eq_true rfl⟩) hS (fun q _ h => h.elim) (fun q h => h.elim) (fun r_1 u t H1 locs ht hvm hw hB hz1 hk1 hS => ?_)
  have hP := gz_keep hP hk1
  generalize H1 = H at hP hS ⊢
  subst hw
  refine lv_aload_n hx hb dL_law_517 rfl (lv_at hl 2 rfl) ?_
  refine lv_aload_n hx hb dL_law_518 rfl (lv_at hl 0 rfl) ?_
  refine lv_iload_n hx hb dL_law_519 rfl (lv_at hl 3 rfl) ?_
  refine lv_iconst (v := 1) hx hb dL_law_520 (by decide) ?_
  refine lv_iadd hx hb dL_law_521 ?_
  refine gz_topi (y := 1) (by decide) ?_
  refine va_sld hx hb hX hbl hbA hS (by unfold vp_in; decide) dL_law_522 ?_
  refine gz_topi (y := xs 1) (congrArg xs (by decide)) ?_
  have hPc := hP.sub (ws' := [(m0, .inr (12, fsM rm))]) [6] rfl
  have hKc := hK.sub (tys' := []) [] rfl
  refine va_calli (va_runV (As := [.int (xs 1)]) (rest := [.int (-2)]) ⟨hx, hb, hml, hown, hts⟩ (fX12_early l dC dI m0 rm (xs 1)) (cwV 1 hts (gz_lV lm_71 lm_72 lm_73 lm_9 lm_70 lwGB goodGB) rfl rfl rfl (by decide +kernel) ⟨Nat.le_of_ble_eq_true rfl, Nat.le_of_ble_eq_true rfl⟩) ⟨fun a U g mk q => by obtain ⟨q0, qP, qK⟩ := q; exact ⟨q0, qP, va_K.moved (u := U) (U := U.calling g mk a) (Vm.Alike.refl U.vm) qK⟩, va_recv hKc hPc (ci := 12) (q0 := 0) rfl rfl, fun U hU hW => ⟨rfl, by rw [hU]; exact hPc, va_K.moved hW.alike hKc⟩⟩ rfl rfl hl.1 rfl (lv_room (Nat.le_of_ble_eq_true rfl)) dL_law_523 ⟨Nat.le_of_ble_eq_true rfl, Nat.le_of_ble_eq_true rfl⟩) hS (fun q _ h => h.elim) (fun q h => h.elim) (fun r_2 u t H1 locs ht hvm hw hB hz1 hk1 hS => ?_)
  have hP := gz_keep hP hk1
  generalize H1 = H at hP hS ⊢
  subst hw
  refine lv_icmp_eq (tgt := 2056) hx hb dL_law_526 (by decide) (fun c_3 => ?_) (fun c_3 => absurd (by decide) c_3)
  exact law_tail C0 (Nat.le_of_ble_eq_true rfl) (Nat.le_of_ble_eq_true rfl) hS (lv_sub hl [0, 3] rfl)
