theorem ld_260 : decode code 260 = .ok (.aload_n 1, 1) := by decide +kernel
theorem ld_261 : la_dA 261 1 := ⟨by decide +kernel, by decide +kernel, by decide +kernel, by decide +kernel, by decide +kernel⟩
theorem ld_266 : la_dA 266 2 := ⟨by decide +kernel, by decide +kernel, by decide +kernel, by decide +kernel, by decide +kernel⟩
theorem ld_271 : decode code 271 = .ok (.invokevirtual 31, 3) := by decide +kernel
theorem ld_274 : decode code 274 = .ok (.aload_n 2, 1) := by decide +kernel
theorem ld_275 : la_dA 275 1 := ⟨by decide +kernel, by decide +kernel, by decide +kernel, by decide +kernel, by decide +kernel⟩
theorem ld_280 : la_dA 280 2 := ⟨by decide +kernel, by decide +kernel, by decide +kernel, by decide +kernel, by decide +kernel⟩
theorem ld_285 : decode code 285 = .ok (.invokevirtual 35, 3) := by decide +kernel
theorem ld_288 : decode code 288 = .ok (.if_icmp .eq 585, 3) := by decide +kernel
theorem ld_293 : decode code 293 = .ok (.aload_n 1, 1) := by decide +kernel
theorem ld_294 : la_dA 294 1 := ⟨by decide +kernel, by decide +kernel, by decide +kernel, by decide +kernel, by decide +kernel⟩
theorem ld_299 : la_dA 299 2 := ⟨by decide +kernel, by decide +kernel, by decide +kernel, by decide +kernel, by decide +kernel⟩
theorem ld_304 : la_dA 304 3 := ⟨by decide +kernel, by decide +kernel, by decide +kernel, by decide +kernel, by decide +kernel⟩
theorem ld_309 : la_dA 309 4 := ⟨by decide +kernel, by decide +kernel, by decide +kernel, by decide +kernel, by decide +kernel⟩
theorem ld_314 : la_dA 314 5 := ⟨by decide +kernel, by decide +kernel, by decide +kernel, by decide +kernel, by decide +kernel⟩
theorem ld_319 : decode code 319 = .ok (.invokevirtual 36, 3) := by decide +kernel
theorem ld_322 : decode code 322 = .ok (.aload_n 2, 1) := by decide +kernel
theorem ld_323 : la_dA 323 1 := ⟨by decide +kernel, by decide +kernel, by decide +kernel, by decide +kernel, by decide +kernel⟩
theorem ld_328 : la_dA 328 2 := ⟨by decide +kernel, by decide +kernel, by decide +kernel, by decide +kernel, by decide +kernel⟩
theorem ld_333 : la_dA 333 3 := ⟨by decide +kernel, by decide +kernel, by decide +kernel, by decide +kernel, by decide +kernel⟩
theorem ld_338 : la_dA 338 4 := ⟨by decide +kernel, by decide +kernel, by decide +kernel, by decide +kernel, by decide +kernel⟩
theorem ld_343 : la_dA 343 5 := ⟨by decide +kernel, by decide +kernel, by decide +kernel, by decide +kernel, by decide +kernel⟩
theorem ld_348 : decode code 348 = .ok (.invokevirtual 40, 3) := by decide +kernel
theorem ld_351 : decode code 351 = .ok (.if_icmp .eq 522, 3) := by decide +kernel
theorem ld_356 : decode code 356 = .ok (.aload_n 1, 1) := by decide +kernel
theorem ld_357 : la_dA 357 1 := ⟨by decide +kernel, by decide +kernel, by decide +kernel, by decide +kernel, by decide +kernel⟩
theorem ld_362 : decode code 362 = .ok (.invokevirtual 41, 3) := by decide +kernel
theorem ld_365 : decode code 365 = .ok (.aload_n 2, 1) := by decide +kernel
theorem ld_366 : la_dA 366 1 := ⟨by decide +kernel, by decide +kernel, by decide +kernel, by decide +kernel, by decide +kernel⟩
theorem ld_371 : decode code 371 = .ok (.invokevirtual 44, 3) := by decide +kernel
theorem ld_374 : decode code 374 = .ok (.if_icmp .eq 499, 3) := by decide +kernel
theorem ld_379 : decode code 379 = .ok (.aload_n 1, 1) := by decide +kernel
theorem ld_380 : la_dA 380 1 := ⟨by decide +kernel, by decide +kernel, by decide +kernel, by decide +kernel, by decide +kernel⟩
theorem ld_385 : decode code 385 = .ok (.invokevirtual 45, 3) := by decide +kernel
theorem ld_388 : decode code 388 = .ok (.aload_n 2, 1) := by decide +kernel
theorem ld_389 : la_dA 389 1 := ⟨by decide +kernel, by decide +kernel, by decide +kernel, by decide +kernel, by decide +kernel⟩
theorem ld_394 : decode code 394 = .ok (.invokevirtual 48, 3) := by decide +kernel
theorem ld_397 : decode code 397 = .ok (.if_icmp .eq 476, 3) := by decide +kernel
theorem ld_402 : decode code 402 = .ok (.aload_n 1, 1) := by decide +kernel
theorem ld_403 : la_dA 403 1 := ⟨by decide +kernel, by decide +kernel, by decide +kernel, by decide +kernel, by decide +kernel⟩
theorem ld_408 : la_dA 408 2 := ⟨by decide +kernel, by decide +kernel, by decide +kernel, by decide +kernel, by decide +kernel⟩
theorem ld_413 : decode code 413 = .ok (.invokevirtual 49, 3) := by decide +kernel
theorem ld_416 : decode code 416 = .ok (.aload_n 2, 1) := by decide +kernel
theorem ld_417 : la_dA 417 1 := ⟨by decide +kernel, by decide +kernel, by decide +kernel, by decide +kernel, by decide +kernel⟩
theorem ld_422 : la_dA 422 2 := ⟨by decide +kernel, by decide +kernel, by decide +kernel, by decide +kernel, by decide +kernel⟩
theorem ld_427 : decode code 427 = .ok (.invokevirtual 52, 3) := by decide +kernel
theorem ld_430 : decode code 430 = .ok (.if_icmp .eq 443, 3) := by decide +kernel
theorem ld_435 : decode code 435 = .ok (.aload_n 1, 1) := by decide +kernel
theorem ld_436 : la_dA 436 1 := ⟨by decide +kernel, by decide +kernel, by decide +kernel, by decide +kernel, by decide +kernel⟩
theorem ld_441 : la_dA 441 2 := ⟨by decide +kernel, by decide +kernel, by decide +kernel, by decide +kernel, by decide +kernel⟩
theorem ld_446 : la_dA 446 3 := ⟨by decide +kernel, by decide +kernel, by decide +kernel, by decide +kernel, by decide +kernel⟩
theorem ld_451 : decode code 451 = .ok (.invokevirtual 53, 3) := by decide +kernel
theorem ld_454 : decode code 454 = .ok (.aload_n 2, 1) := by decide +kernel
theorem ld_455 : la_dA 455 1 := ⟨by decide +kernel, by decide +kernel, by decide +kernel, by decide +kernel, by decide +kernel⟩
theorem ld_460 : la_dA 460 2 := ⟨by decide +kernel, by decide +kernel, by decide +kernel, by decide +kernel, by decide +kernel⟩
theorem ld_465 : la_dA 465 3 := ⟨by decide +kernel, by decide +kernel, by decide +kernel, by decide +kernel, by decide +kernel⟩
theorem ld_470 : decode code 470 = .ok (.invokevirtual 56, 3) := by decide +kernel
theorem ld_473 : decode code 473 = .ok (.if_icmp .eq 400, 3) := by decide +kernel
