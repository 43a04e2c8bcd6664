theorem ld_478 : decode code 478 = .ok (.aload_n 1, 1) := by decide +kernel
theorem ld_479 : la_dA 479 1 := ⟨by decide +kernel, by decide +kernel, by decide +kernel, by decide +kernel, by decide +kernel⟩
theorem ld_484 : decode code 484 = .ok (.invokevirtual 57, 3) := by decide +kernel
theorem ld_487 : decode code 487 = .ok (.aload_n 2, 1) := by decide +kernel
theorem ld_488 : la_dA 488 1 := ⟨by decide +kernel, by decide +kernel, by decide +kernel, by decide +kernel, by decide +kernel⟩
theorem ld_493 : decode code 493 = .ok (.invokevirtual 60, 3) := by decide +kernel
theorem ld_496 : decode code 496 = .ok (.if_icmp .eq 377, 3) := by decide +kernel
theorem ld_501 : decode code 501 = .ok (.aload_n 1, 1) := by decide +kernel
theorem ld_502 : la_dA 502 1 := ⟨by decide +kernel, by decide +kernel, by decide +kernel, by decide +kernel, by decide +kernel⟩
theorem ld_507 : decode code 507 = .ok (.invokevirtual 61, 3) := by decide +kernel
theorem ld_510 : decode code 510 = .ok (.aload_n 2, 1) := by decide +kernel
theorem ld_511 : la_dA 511 1 := ⟨by decide +kernel, by decide +kernel, by decide +kernel, by decide +kernel, by decide +kernel⟩
theorem ld_516 : decode code 516 = .ok (.invokevirtual 64, 3) := by decide +kernel
theorem ld_519 : decode code 519 = .ok (.if_icmp .eq 354, 3) := by decide +kernel
theorem ld_524 : decode code 524 = .ok (.aload_n 1, 1) := by decide +kernel
theorem ld_525 : la_dA 525 1 := ⟨by decide +kernel, by decide +kernel, by decide +kernel, by decide +kernel, by decide +kernel⟩
theorem ld_530 : decode code 530 = .ok (.invokevirtual 65, 3) := by decide +kernel
theorem ld_533 : decode code 533 = .ok (.aload_n 2, 1) := by decide +kernel
theorem ld_534 : la_dA 534 1 := ⟨by decide +kernel, by decide +kernel, by decide +kernel, by decide +kernel, by decide +kernel⟩
theorem ld_539 : decode code 539 = .ok (.invokevirtual 68, 3) := by decide +kernel
theorem ld_542 : decode code 542 = .ok (.if_icmp .eq 331, 3) := by decide +kernel
theorem ld_547 : decode code 547 = .ok (.aload_n 1, 1) := by decide +kernel
theorem ld_548 : la_dA 548 1 := ⟨by decide +kernel, by decide +kernel, by decide +kernel, by decide +kernel, by decide +kernel⟩
theorem ld_553 : decode code 553 = .ok (.invokevirtual 69, 3) := by decide +kernel
theorem ld_556 : decode code 556 = .ok (.aload_n 2, 1) := by decide +kernel
theorem ld_557 : la_dA 557 1 := ⟨by decide +kernel, by decide +kernel, by decide +kernel, by decide +kernel, by decide +kernel⟩
theorem ld_562 : decode code 562 = .ok (.invokevirtual 72, 3) := by decide +kernel
theorem ld_565 : decode code 565 = .ok (.if_icmp .eq 308, 3) := by decide +kernel
theorem ld_570 : decode code 570 = .ok (.aload_n 1, 1) := by decide +kernel
theorem ld_571 : la_dA 571 1 := ⟨by decide +kernel, by decide +kernel, by decide +kernel, by decide +kernel, by decide +kernel⟩
theorem ld_576 : decode code 576 = .ok (.invokevirtual 73, 3) := by decide +kernel
theorem ld_579 : decode code 579 = .ok (.aload_n 2, 1) := by decide +kernel
theorem ld_580 : la_dA 580 1 := ⟨by decide +kernel, by decide +kernel, by decide +kernel, by decide +kernel, by decide +kernel⟩
theorem ld_585 : decode code 585 = .ok (.invokevirtual 76, 3) := by decide +kernel
theorem ld_588 : decode code 588 = .ok (.if_icmp .eq 285, 3) := by decide +kernel
theorem ld_593 : decode code 593 = .ok (.aload_n 1, 1) := by decide +kernel
theorem ld_594 : la_dA 594 1 := ⟨by decide +kernel, by decide +kernel, by decide +kernel, by decide +kernel, by decide +kernel⟩
theorem ld_599 : decode code 599 = .ok (.invokevirtual 77, 3) := by decide +kernel
theorem ld_602 : decode code 602 = .ok (.aload_n 2, 1) := by decide +kernel
theorem ld_603 : la_dA 603 1 := ⟨by decide +kernel, by decide +kernel, by decide +kernel, by decide +kernel, by decide +kernel⟩
theorem ld_608 : decode code 608 = .ok (.invokevirtual 80, 3) := by decide +kernel
theorem ld_611 : decode code 611 = .ok (.if_icmp .eq 262, 3) := by decide +kernel
theorem ld_616 : decode code 616 = .ok (.aload_n 1, 1) := by decide +kernel
theorem ld_617 : la_dA 617 1 := ⟨by decide +kernel, by decide +kernel, by decide +kernel, by decide +kernel, by decide +kernel⟩
theorem ld_622 : decode code 622 = .ok (.invokevirtual 81, 3) := by decide +kernel
theorem ld_625 : decode code 625 = .ok (.aload_n 2, 1) := by decide +kernel
theorem ld_626 : la_dA 626 1 := ⟨by decide +kernel, by decide +kernel, by decide +kernel, by decide +kernel, by decide +kernel⟩
theorem ld_631 : decode code 631 = .ok (.invokevirtual 84, 3) := by decide +kernel
theorem ld_634 : decode code 634 = .ok (.if_icmp .eq 239, 3) := by decide +kernel
theorem ld_639 : decode code 639 = .ok (.aload_n 1, 1) := by decide +kernel
theorem ld_640 : la_dA 640 1 := ⟨by decide +kernel, by decide +kernel, by decide +kernel, by decide +kernel, by decide +kernel⟩
theorem ld_645 : la_dA 645 2 := ⟨by decide +kernel, by decide +kernel, by decide +kernel, by decide +kernel, by decide +kernel⟩
theorem ld_650 : decode code 650 = .ok (.invokevirtual 85, 3) := by decide +kernel
theorem ld_653 : decode code 653 = .ok (.aload_n 2, 1) := by decide +kernel
theorem ld_654 : la_dA 654 1 := ⟨by decide +kernel, by decide +kernel, by decide +kernel, by decide +kernel, by decide +kernel⟩
theorem ld_659 : la_dA 659 2 := ⟨by decide +kernel, by decide +kernel, by decide +kernel, by decide +kernel, by decide +kernel⟩
theorem ld_664 : decode code 664 = .ok (.invokevirtual 88, 3) := by decide +kernel
theorem ld_667 : decode code 667 = .ok (.if_icmp .eq 206, 3) := by decide +kernel
