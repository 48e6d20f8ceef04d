theorem t_564 : Cond.methodLink "ContentLibraryLaw" 92 (⟨"ContentLibraryLaw", "print", "(LContentLibrary;I[J)I"⟩ : MethodName) ∈ x_big := x_bt 564 (by decide +kernel) (by decide +kernel)
theorem t_565 : Cond.static (⟨"ContentLibraryLaw", "print", "(LContentLibrary;I[J)I"⟩ : MethodName) ∈ x_big := x_bt 565 (by decide +kernel) (by decide +kernel)
theorem t_566 : Cond.codeWith (⟨"ContentLibraryLaw", "print", "(LContentLibrary;I[J)I"⟩ : MethodName) method_7_code 4 (some .int) [(0, 8, 11, 13), (0, 8, 14, 23)] ∈ x_big := x_bt 566 (by decide +kernel) (by decide +kernel)
theorem t_571 : Cond.methodLink "ContentLibraryLaw" 95 (⟨"ContentLibraryLaw", "sample", "(LContentLibrary;III[J)I"⟩ : MethodName) ∈ x_big := x_bt 571 (by decide +kernel) (by decide +kernel)
theorem t_572 : Cond.static (⟨"ContentLibraryLaw", "sample", "(LContentLibrary;III[J)I"⟩ : MethodName) ∈ x_big := x_bt 572 (by decide +kernel) (by decide +kernel)
theorem t_573 : Cond.codeWith (⟨"ContentLibraryLaw", "sample", "(LContentLibrary;III[J)I"⟩ : MethodName) method_8_code 6 (some .int) [(0, 12, 15, 13), (0, 12, 19, 23)] ∈ x_big := x_bt 573 (by decide +kernel) (by decide +kernel)
theorem t_582 : Cond.methodLink "ContentLibraryLaw" 99 (⟨"ContentLibraryLaw", "near", "(LContentLibrary;II[J)I"⟩ : MethodName) ∈ x_big := x_bt 582 (by decide +kernel) (by decide +kernel)
theorem t_583 : Cond.static (⟨"ContentLibraryLaw", "near", "(LContentLibrary;II[J)I"⟩ : MethodName) ∈ x_big := x_bt 583 (by decide +kernel) (by decide +kernel)
theorem t_584 : Cond.codeWith (⟨"ContentLibraryLaw", "near", "(LContentLibrary;II[J)I"⟩ : MethodName) method_9_code 5 (some .int) [(0, 10, 13, 13), (0, 10, 17, 23), (0, 10, 21, 15)] ∈ x_big := x_bt 584 (by decide +kernel) (by decide +kernel)
theorem t_600 : Cond.methodLink "ContentLibraryLaw" 102 (⟨"ContentLibraryLaw", "found", "(LContentLibrary;II[J)I"⟩ : MethodName) ∈ x_big := x_bt 600 (by decide +kernel) (by decide +kernel)
theorem t_601 : Cond.static (⟨"ContentLibraryLaw", "found", "(LContentLibrary;II[J)I"⟩ : MethodName) ∈ x_big := x_bt 601 (by decide +kernel) (by decide +kernel)
theorem t_602 : Cond.codeWith (⟨"ContentLibraryLaw", "found", "(LContentLibrary;II[J)I"⟩ : MethodName) method_10_code 5 (some .int) [(0, 10, 13, 13), (0, 10, 17, 23), (0, 10, 21, 15)] ∈ x_big := x_bt 602 (by decide +kernel) (by decide +kernel)
theorem t_854 : Cond.methodLink "ContentLibraryLaw" 94 (⟨"ContentLibraryModel", "print", "(I)J"⟩ : MethodName) ∈ x_big := x_bt 854 (by decide +kernel) (by decide +kernel)
theorem t_855 : Cond.instanceMethod (⟨"ContentLibraryModel", "print", "(I)J"⟩ : MethodName) ∈ x_big := x_bt 855 (by decide +kernel) (by decide +kernel)
theorem t_856 : Cond.selects "ContentLibraryModel" (⟨"ContentLibraryModel", "print", "(I)J"⟩ : MethodName) (⟨"ContentLibraryModel", "print", "(I)J"⟩ : MethodName) ∈ x_big := x_bt 856 (by decide +kernel) (by decide +kernel)
theorem t_857 : Cond.code (⟨"ContentLibraryModel", "print", "(I)J"⟩ : MethodName) prog_7_method_28_code 2 (some .long) ∈ x_big := x_bt 857 (by decide +kernel) (by decide +kernel)
theorem t_858 : Cond.methodLink "ContentLibraryLaw" 98 (⟨"ContentLibraryModel", "sample", "(III)I"⟩ : MethodName) ∈ x_big := x_bt 858 (by decide +kernel) (by decide +kernel)
theorem t_859 : Cond.instanceMethod (⟨"ContentLibraryModel", "sample", "(III)I"⟩ : MethodName) ∈ x_big := x_bt 859 (by decide +kernel) (by decide +kernel)
theorem t_860 : Cond.selects "ContentLibraryModel" (⟨"ContentLibraryModel", "sample", "(III)I"⟩ : MethodName) (⟨"ContentLibraryModel", "sample", "(III)I"⟩ : MethodName) ∈ x_big := x_bt 860 (by decide +kernel) (by decide +kernel)
theorem t_861 : Cond.code (⟨"ContentLibraryModel", "sample", "(III)I"⟩ : MethodName) prog_7_method_29_code 4 (some .int) ∈ x_big := x_bt 861 (by decide +kernel) (by decide +kernel)
theorem t_862 : Cond.methodLink "ContentLibraryLaw" 101 (⟨"ContentLibraryModel", "near", "(II)I"⟩ : MethodName) ∈ x_big := x_bt 862 (by decide +kernel) (by decide +kernel)
theorem t_863 : Cond.instanceMethod (⟨"ContentLibraryModel", "near", "(II)I"⟩ : MethodName) ∈ x_big := x_bt 863 (by decide +kernel) (by decide +kernel)
theorem t_864 : Cond.selects "ContentLibraryModel" (⟨"ContentLibraryModel", "near", "(II)I"⟩ : MethodName) (⟨"ContentLibraryModel", "near", "(II)I"⟩ : MethodName) ∈ x_big := x_bt 864 (by decide +kernel) (by decide +kernel)
theorem t_865 : Cond.code (⟨"ContentLibraryModel", "near", "(II)I"⟩ : MethodName) prog_7_method_30_code 7 (some .int) ∈ x_big := x_bt 865 (by decide +kernel) (by decide +kernel)
theorem t_869 : Cond.methodLink "ContentLibraryLaw" 104 (⟨"ContentLibraryModel", "found", "(II)I"⟩ : MethodName) ∈ x_big := x_bt 869 (by decide +kernel) (by decide +kernel)
theorem t_870 : Cond.instanceMethod (⟨"ContentLibraryModel", "found", "(II)I"⟩ : MethodName) ∈ x_big := x_bt 870 (by decide +kernel) (by decide +kernel)
theorem t_871 : Cond.selects "ContentLibraryModel" (⟨"ContentLibraryModel", "found", "(II)I"⟩ : MethodName) (⟨"ContentLibraryModel", "found", "(II)I"⟩ : MethodName) ∈ x_big := x_bt 871 (by decide +kernel) (by decide +kernel)
theorem t_872 : Cond.code (⟨"ContentLibraryModel", "found", "(II)I"⟩ : MethodName) prog_7_method_32_code 3 (some .int) ∈ x_big := x_bt 872 (by decide +kernel) (by decide +kernel)
theorem d_L_law_412 : decode code 412 = .ok (.aload_n 1, 1) := by decide +kernel
theorem d_L_law_413 : decode code 413 = .ok (.aload_n 0, 1) := by decide +kernel
theorem d_L_law_414 : decode code 414 = .ok (.iload 4, 2) := by decide +kernel
theorem d_L_law_416 : decode code 416 = .ok (.iconst 1, 1) := by decide +kernel
theorem d_L_law_417 : decode code 417 = .ok (.iadd, 1) := by decide +kernel
theorem d_L_law_418 : decode code 418 = .ok (.iaload, 1) := by decide +kernel
theorem d_L_law_419 : decode code 419 = .ok (.aload_n 3, 1) := by decide +kernel
theorem d_L_law_420 : decode code 420 = .ok (.invokestatic 92, 3) := by decide +kernel
theorem d_L_law_423 : decode code 423 = .ok (.istore 5, 2) := by decide +kernel
theorem d_L_law_425 : decode code 425 = .ok (.aload_n 2, 1) := by decide +kernel
theorem d_L_law_426 : decode code 426 = .ok (.aload_n 0, 1) := by decide +kernel
theorem d_L_law_427 : decode code 427 = .ok (.iload 4, 2) := by decide +kernel
theorem d_L_law_429 : decode code 429 = .ok (.iconst 1, 1) := by decide +kernel
theorem d_L_law_430 : decode code 430 = .ok (.iadd, 1) := by decide +kernel
theorem d_L_law_431 : decode code 431 = .ok (.iaload, 1) := by decide +kernel
theorem d_L_law_432 : decode code 432 = .ok (.invokevirtual 94, 3) := by decide +kernel
theorem d_L_law_435 : decode code 435 = .ok (.lstore 6, 2) := by decide +kernel
theorem d_L_law_437 : decode code 437 = .ok (.aload_n 2, 1) := by decide +kernel
theorem d_L_law_438 : decode code 438 = .ok (.invokevirtual 78, 3) := by decide +kernel
theorem d_L_law_441 : decode code 441 = .ok (.iload 5, 2) := by decide +kernel
theorem d_L_law_443 : decode code 443 = .ok (.if_icmp .eq 5, 3) := by decide +kernel
theorem d_L_law_448 : decode code 448 = .ok (.iload 5, 2) := by decide +kernel
theorem d_L_law_450 : decode code 450 = .ok (.ifCond .ne 14, 3) := by decide +kernel
theorem d_L_law_464 : decode code 464 = .ok (.goto 574, 3) := by decide +kernel
theorem d_L_law_453 : decode code 453 = .ok (.aload_n 3, 1) := by decide +kernel
theorem d_L_law_454 : decode code 454 = .ok (.iconst 0, 1) := by decide +kernel
theorem d_L_law_455 : decode code 455 = .ok (.laload, 1) := by decide +kernel
theorem d_L_law_456 : decode code 456 = .ok (.lload 6, 2) := by decide +kernel
theorem d_L_law_458 : decode code 458 = .ok (.lcmp, 1) := by decide +kernel
theorem d_L_law_459 : decode code 459 = .ok (.ifCond .eq 5, 3) := by decide +kernel
theorem d_L_law_467 : decode code 467 = .ok (.aload_n 1, 1) := by decide +kernel
theorem d_L_law_468 : decode code 468 = .ok (.aload_n 0, 1) := by decide +kernel
theorem d_L_law_469 : decode code 469 = .ok (.iload 4, 2) := by decide +kernel
theorem d_L_law_471 : decode code 471 = .ok (.iconst 1, 1) := by decide +kernel
theorem d_L_law_472 : decode code 472 = .ok (.iadd, 1) := by decide +kernel
theorem d_L_law_473 : decode code 473 = .ok (.iaload, 1) := by decide +kernel
theorem d_L_law_474 : decode code 474 = .ok (.aload_n 0, 1) := by decide +kernel
theorem d_L_law_475 : decode code 475 = .ok (.iload 4, 2) := by decide +kernel
theorem d_L_law_477 : decode code 477 = .ok (.iconst 2, 1) := by decide +kernel
theorem d_L_law_478 : decode code 478 = .ok (.iadd, 1) := by decide +kernel
theorem d_L_law_479 : decode code 479 = .ok (.iaload, 1) := by decide +kernel
theorem d_L_law_480 : decode code 480 = .ok (.aload_n 0, 1) := by decide +kernel
theorem d_L_law_481 : decode code 481 = .ok (.iload 4, 2) := by decide +kernel
theorem d_L_law_483 : decode code 483 = .ok (.iconst 3, 1) := by decide +kernel
theorem d_L_law_484 : decode code 484 = .ok (.iadd, 1) := by decide +kernel
theorem d_L_law_485 : decode code 485 = .ok (.iaload, 1) := by decide +kernel
theorem d_L_law_486 : decode code 486 = .ok (.aload_n 3, 1) := by decide +kernel
theorem d_L_law_487 : decode code 487 = .ok (.invokestatic 95, 3) := by decide +kernel
theorem d_L_law_490 : decode code 490 = .ok (.istore 5, 2) := by decide +kernel
theorem d_L_law_492 : decode code 492 = .ok (.aload_n 2, 1) := by decide +kernel
theorem d_L_law_493 : decode code 493 = .ok (.aload_n 0, 1) := by decide +kernel
theorem d_L_law_494 : decode code 494 = .ok (.iload 4, 2) := by decide +kernel
theorem d_L_law_496 : decode code 496 = .ok (.iconst 1, 1) := by decide +kernel
theorem d_L_law_497 : decode code 497 = .ok (.iadd, 1) := by decide +kernel
theorem d_L_law_498 : decode code 498 = .ok (.iaload, 1) := by decide +kernel
theorem d_L_law_499 : decode code 499 = .ok (.aload_n 0, 1) := by decide +kernel
theorem d_L_law_500 : decode code 500 = .ok (.iload 4, 2) := by decide +kernel
theorem d_L_law_502 : decode code 502 = .ok (.iconst 2, 1) := by decide +kernel
theorem d_L_law_503 : decode code 503 = .ok (.iadd, 1) := by decide +kernel
theorem d_L_law_504 : decode code 504 = .ok (.iaload, 1) := by decide +kernel
theorem d_L_law_505 : decode code 505 = .ok (.aload_n 0, 1) := by decide +kernel
theorem d_L_law_506 : decode code 506 = .ok (.iload 4, 2) := by decide +kernel
theorem d_L_law_508 : decode code 508 = .ok (.iconst 3, 1) := by decide +kernel
theorem d_L_law_509 : decode code 509 = .ok (.iadd, 1) := by decide +kernel
theorem d_L_law_510 : decode code 510 = .ok (.iaload, 1) := by decide +kernel
theorem d_L_law_511 : decode code 511 = .ok (.invokevirtual 98, 3) := by decide +kernel
theorem d_L_law_514 : decode code 514 = .ok (.istore 6, 2) := by decide +kernel
theorem d_L_law_516 : decode code 516 = .ok (.aload_n 2, 1) := by decide +kernel
theorem d_L_law_517 : decode code 517 = .ok (.invokevirtual 78, 3) := by decide +kernel
theorem d_L_law_520 : decode code 520 = .ok (.iload 5, 2) := by decide +kernel
theorem d_L_law_522 : decode code 522 = .ok (.if_icmp .eq 5, 3) := by decide +kernel
theorem d_L_law_527 : decode code 527 = .ok (.iload 5, 2) := by decide +kernel
theorem d_L_law_529 : decode code 529 = .ok (.ifCond .ne 15, 3) := by decide +kernel
theorem d_L_law_544 : decode code 544 = .ok (.goto 494, 3) := by decide +kernel
theorem d_L_law_532 : decode code 532 = .ok (.aload_n 3, 1) := by decide +kernel
theorem d_L_law_533 : decode code 533 = .ok (.iconst 0, 1) := by decide +kernel
theorem d_L_law_534 : decode code 534 = .ok (.laload, 1) := by decide +kernel
theorem d_L_law_535 : decode code 535 = .ok (.iload 6, 2) := by decide +kernel
theorem d_L_law_537 : decode code 537 = .ok (.i2l, 1) := by decide +kernel
theorem d_L_law_538 : decode code 538 = .ok (.lcmp, 1) := by decide +kernel
theorem d_L_law_539 : decode code 539 = .ok (.ifCond .eq 5, 3) := by decide +kernel
theorem d_L_law_547 : decode code 547 = .ok (.aload_n 1, 1) := by decide +kernel
theorem d_L_law_548 : decode code 548 = .ok (.aload_n 0, 1) := by decide +kernel
theorem d_L_law_549 : decode code 549 = .ok (.iload 4, 2) := by decide +kernel
theorem d_L_law_551 : decode code 551 = .ok (.iconst 1, 1) := by decide +kernel
theorem d_L_law_552 : decode code 552 = .ok (.iadd, 1) := by decide +kernel
theorem d_L_law_553 : decode code 553 = .ok (.iaload, 1) := by decide +kernel
theorem d_L_law_554 : decode code 554 = .ok (.aload_n 0, 1) := by decide +kernel
theorem d_L_law_555 : decode code 555 = .ok (.iload 4, 2) := by decide +kernel
theorem d_L_law_557 : decode code 557 = .ok (.iconst 2, 1) := by decide +kernel
theorem d_L_law_558 : decode code 558 = .ok (.iadd, 1) := by decide +kernel
theorem d_L_law_559 : decode code 559 = .ok (.iaload, 1) := by decide +kernel
theorem d_L_law_560 : decode code 560 = .ok (.aload_n 3, 1) := by decide +kernel
theorem d_L_law_561 : decode code 561 = .ok (.invokestatic 99, 3) := by decide +kernel
theorem d_L_law_564 : decode code 564 = .ok (.istore 5, 2) := by decide +kernel
theorem d_L_law_566 : decode code 566 = .ok (.aload_n 2, 1) := by decide +kernel
theorem d_L_law_567 : decode code 567 = .ok (.aload_n 0, 1) := by decide +kernel
theorem d_L_law_568 : decode code 568 = .ok (.iload 4, 2) := by decide +kernel
theorem d_L_law_570 : decode code 570 = .ok (.iconst 1, 1) := by decide +kernel
theorem d_L_law_571 : decode code 571 = .ok (.iadd, 1) := by decide +kernel
theorem d_L_law_572 : decode code 572 = .ok (.iaload, 1) := by decide +kernel
theorem d_L_law_573 : decode code 573 = .ok (.aload_n 0, 1) := by decide +kernel
theorem d_L_law_574 : decode code 574 = .ok (.iload 4, 2) := by decide +kernel
theorem d_L_law_576 : decode code 576 = .ok (.iconst 2, 1) := by decide +kernel
theorem d_L_law_577 : decode code 577 = .ok (.iadd, 1) := by decide +kernel
theorem d_L_law_578 : decode code 578 = .ok (.iaload, 1) := by decide +kernel
theorem d_L_law_579 : decode code 579 = .ok (.invokevirtual 101, 3) := by decide +kernel
theorem d_L_law_582 : decode code 582 = .ok (.istore 6, 2) := by decide +kernel
theorem d_L_law_584 : decode code 584 = .ok (.aload_n 2, 1) := by decide +kernel
theorem d_L_law_585 : decode code 585 = .ok (.invokevirtual 78, 3) := by decide +kernel
theorem d_L_law_588 : decode code 588 = .ok (.iload 5, 2) := by decide +kernel
theorem d_L_law_590 : decode code 590 = .ok (.if_icmp .eq 5, 3) := by decide +kernel
theorem d_L_law_595 : decode code 595 = .ok (.iload 5, 2) := by decide +kernel
theorem d_L_law_597 : decode code 597 = .ok (.ifCond .ne 15, 3) := by decide +kernel
theorem d_L_law_612 : decode code 612 = .ok (.goto 426, 3) := by decide +kernel
theorem d_L_law_600 : decode code 600 = .ok (.aload_n 3, 1) := by decide +kernel
theorem d_L_law_601 : decode code 601 = .ok (.iconst 0, 1) := by decide +kernel
theorem d_L_law_602 : decode code 602 = .ok (.laload, 1) := by decide +kernel
theorem d_L_law_603 : decode code 603 = .ok (.iload 6, 2) := by decide +kernel
theorem d_L_law_605 : decode code 605 = .ok (.i2l, 1) := by decide +kernel
theorem d_L_law_606 : decode code 606 = .ok (.lcmp, 1) := by decide +kernel
theorem d_L_law_607 : decode code 607 = .ok (.ifCond .eq 5, 3) := by decide +kernel
theorem d_L_law_615 : decode code 615 = .ok (.aload_n 1, 1) := by decide +kernel
theorem d_L_law_616 : decode code 616 = .ok (.aload_n 0, 1) := by decide +kernel
theorem d_L_law_617 : decode code 617 = .ok (.iload 4, 2) := by decide +kernel
theorem d_L_law_619 : decode code 619 = .ok (.iconst 1, 1) := by decide +kernel
theorem d_L_law_620 : decode code 620 = .ok (.iadd, 1) := by decide +kernel
theorem d_L_law_621 : decode code 621 = .ok (.iaload, 1) := by decide +kernel
theorem d_L_law_622 : decode code 622 = .ok (.aload_n 0, 1) := by decide +kernel
theorem d_L_law_623 : decode code 623 = .ok (.iload 4, 2) := by decide +kernel
theorem d_L_law_625 : decode code 625 = .ok (.iconst 2, 1) := by decide +kernel
theorem d_L_law_626 : decode code 626 = .ok (.iadd, 1) := by decide +kernel
theorem d_L_law_627 : decode code 627 = .ok (.iaload, 1) := by decide +kernel
theorem d_L_law_628 : decode code 628 = .ok (.aload_n 3, 1) := by decide +kernel
theorem d_L_law_629 : decode code 629 = .ok (.invokestatic 102, 3) := by decide +kernel
theorem d_L_law_632 : decode code 632 = .ok (.istore 5, 2) := by decide +kernel
theorem d_L_law_634 : decode code 634 = .ok (.aload_n 2, 1) := by decide +kernel
theorem d_L_law_635 : decode code 635 = .ok (.aload_n 0, 1) := by decide +kernel
theorem d_L_law_636 : decode code 636 = .ok (.iload 4, 2) := by decide +kernel
theorem d_L_law_638 : decode code 638 = .ok (.iconst 1, 1) := by decide +kernel
theorem d_L_law_639 : decode code 639 = .ok (.iadd, 1) := by decide +kernel
theorem d_L_law_640 : decode code 640 = .ok (.iaload, 1) := by decide +kernel
theorem d_L_law_641 : decode code 641 = .ok (.aload_n 0, 1) := by decide +kernel
theorem d_L_law_642 : decode code 642 = .ok (.iload 4, 2) := by decide +kernel
theorem d_L_law_644 : decode code 644 = .ok (.iconst 2, 1) := by decide +kernel
theorem d_L_law_645 : decode code 645 = .ok (.iadd, 1) := by decide +kernel
theorem d_L_law_646 : decode code 646 = .ok (.iaload, 1) := by decide +kernel
theorem d_L_law_647 : decode code 647 = .ok (.invokevirtual 104, 3) := by decide +kernel
theorem d_L_law_650 : decode code 650 = .ok (.istore 6, 2) := by decide +kernel
theorem d_L_law_652 : decode code 652 = .ok (.aload_n 2, 1) := by decide +kernel
theorem d_L_law_653 : decode code 653 = .ok (.invokevirtual 78, 3) := by decide +kernel
theorem d_L_law_656 : decode code 656 = .ok (.iload 5, 2) := by decide +kernel
theorem d_L_law_658 : decode code 658 = .ok (.if_icmp .eq 5, 3) := by decide +kernel
theorem d_L_law_663 : decode code 663 = .ok (.iload 5, 2) := by decide +kernel
theorem d_L_law_665 : decode code 665 = .ok (.ifCond .ne 15, 3) := by decide +kernel
theorem d_L_law_680 : decode code 680 = .ok (.goto 358, 3) := by decide +kernel
theorem d_L_law_668 : decode code 668 = .ok (.aload_n 3, 1) := by decide +kernel
theorem d_L_law_669 : decode code 669 = .ok (.iconst 0, 1) := by decide +kernel
theorem d_L_law_670 : decode code 670 = .ok (.laload, 1) := by decide +kernel
theorem d_L_law_671 : decode code 671 = .ok (.iload 6, 2) := by decide +kernel
theorem d_L_law_673 : decode code 673 = .ok (.i2l, 1) := by decide +kernel
theorem d_L_law_674 : decode code 674 = .ok (.lcmp, 1) := by decide +kernel
theorem d_L_law_675 : decode code 675 = .ok (.ifCond .eq 5, 3) := by decide +kernel
set_option maxHeartbeats 4000000 in
set_option maxRecDepth 100000 in
theorem l_case_4 {p : Program} {e : Env} {s : State} {m : MethodId} {below : List Frame} {meth : Method} {c : Code} (l : Launch) {b L : Nat} {xs : Nat → Int32} (hL6 : L = 6) (C0 : lw_At p s m meth c b L xs) (G : x_G) (hs0 : x_s0 G = s.heap.size) (hl9 : l.stackTraces = false) (n : Nat) (hn : n ≤ 40) (hK : va_K (x_D G) vwCl (x_ty G) s) (hG : x_GV G s s.heap) (ax am : Nat → Nat) (zm : x_St) (hm : m_fr n zm) (H : Heap) (locs : List Loc) (ls : Array Slot) (hP : va_P (x_D G) vwCl (x_Wd (g_X G ax am n zm) (x_z0 n)) H) (hD : va_D (x_A G) (x_Wd (g_X G ax am n zm) (x_z0 n))) (hS : va_S (x_A G) s.heap H locs) (hl : lv_has ls 8 [(0, .ref b), (1, .ref (ax 0)), (2, .ref (am 0)), (3, .ref (ax 110)), (4, .int (1 : Int32))]) : W p l e room_1 s m #[Value.ref b] below meth c H locs 137 9525 (lw_Z below #[Value.ref b] s) (F0 m 412 ls []) := by
  obtain ⟨hx, hb, hr, hml, hown, hts9, hX, hbl, hlocks, hgv⟩ := id C0
  have hown : s.vm.findClass "ContentLibraryLaw" = some m.cls := hown
  have hts : ∀ w ∈ x_big, w.before #[Value.ref b] s = true := fun w h => hts9 w (x_bg h).1
  have hbA : ¬ x_A G b := fun h => absurd (show x_s0 G ≤ b from h) (by omega)
  have hz : x_s0 G ≤ s.heap.size := Nat.le_of_eq hs0
  have hG1 : ∀ (ad : Nat → Nat) (n : Nat) (rs : va_W), x_GV (x_mk G ad n rs) s s.heap := fun _ _ _ => hG
  refine lv_aload_n hx hb d_L_law_412 rfl (lv_at hl 1 rfl) ?_
  refine lv_aload_n hx hb d_L_law_413 rfl (lv_at hl 0 rfl) ?_
  refine lv_iload hx hb d_L_law_414 (lv_at hl 4 rfl) ?_
  refine lv_iconst (v := (1 : Int32)) hx hb d_L_law_416 (by decide) ?_
  refine lv_iadd hx hb d_L_law_417 ?_
  refine va_sld hx hb hX hbl hbA hS (i := ((1 : Int32) + (1 : Int32))) (by rw [hL6]; exact v_d (by decide)) d_L_law_418 ?_
  refine lv_aload_n hx hb d_L_law_419 rfl (lv_at hl 3 rfl) ?_
  obtain ⟨r1, z1, b1, zm1, hq1, hq2, hth, hout⟩ := v_print (x_fr0 n) hm (xs (((1 : Int32) + (1 : Int32))).toNatClampNeg)
  refine va_calli (e_runSW (n := 3) (As := [.ref (ax 0), .int (xs (((1 : Int32) + (1 : Int32))).toNatClampNeg), .ref (ax 110)]) (rest := []) ⟨hx, hb, hml, hown, hts⟩ (fun _ h => h) (c_L_print l (g_X G ax am n zm) hl9 (xs (((1 : Int32) + (1 : Int32))).toNatClampNeg) (x_z0 n) r1 z1 hq1) t_564 t_565 t_0 t_566 rfl rfl ⟨by decide, by decide, by decide +kernel⟩ ⟨Nat.le_of_ble_eq_true rfl, Nat.le_of_ble_eq_true rfl⟩ ⟨x_blind _ _ _, fun U hU hW => ⟨rfl, x_pw hP hD hK (hG1 _ _ _) hS hz hU hW⟩⟩ rfl rfl hl.1 rfl (lv_room (Nat.le_of_ble_eq_true rfl)) d_L_law_420 ⟨Nat.le_of_ble_eq_true rfl, Nat.le_of_ble_eq_true rfl⟩) hS (fun q _ h => h) (fun q h => h) (fun ra u t H locs ht hvm hw hB _ _ hS => ?_)
  obtain ⟨rfl, rfl⟩ := hw
  obtain ⟨hP, hD⟩ := x_back hB ht
  refine lv_istore (lv' := [(5, .int r1), (0, .ref b), (1, .ref (ax 0)), (2, .ref (am 0)), (3, .ref (ax 110)), (4, .int (1 : Int32))]) hx hb d_L_law_423 hl (by decide) rfl (fun ls hl => ?_)
  refine lv_aload_n hx hb d_L_law_425 rfl (lv_at hl 3 rfl) ?_
  refine lv_aload_n hx hb d_L_law_426 rfl (lv_at hl 1 rfl) ?_
  refine lv_iload hx hb d_L_law_427 (lv_at hl 5 rfl) ?_
  refine lv_iconst (v := (1 : Int32)) hx hb d_L_law_429 (by decide) ?_
  refine lv_iadd hx hb d_L_law_430 ?_
  refine va_sld hx hb hX hbl hbA hS (i := ((1 : Int32) + (1 : Int32))) (by rw [hL6]; exact v_d (by decide)) d_L_law_431 ?_
  obtain ⟨hP, hD⟩ := l_toM hP hD
  refine va_calll (va_runV (As := [.int (xs (((1 : Int32) + (1 : Int32))).toNatClampNeg)]) (rest := []) ⟨hx, hb, hml, hown, hts⟩ (c_M_print l (g_M G ax am n z1) (xs (((1 : Int32) + (1 : Int32))).toNatClampNeg) zm b1 zm1 hq2) (cwV 1 hts (x_gV t_854 t_855 t_856 t_7 t_857) rfl rfl rfl (by decide +kernel) ⟨Nat.le_of_ble_eq_true rfl, Nat.le_of_ble_eq_true rfl⟩) ⟨m_blind _ _ _, va_recv hK hP (ci := 5) (q0 := 0) rfl (m_lk_M (g_M G ax am n z1) _), fun U hU hW => ⟨rfl, m_pw hP hD hK trivial hS hz hU hW⟩⟩ rfl rfl hl.1 rfl (lv_room (Nat.le_of_ble_eq_true rfl)) d_L_law_432 ⟨Nat.le_of_ble_eq_true rfl, Nat.le_of_ble_eq_true rfl⟩) hS (fun q _ h => h) (fun q h => h) (fun ra u t H locs ht hvm hw hB _ _ hS => ?_)
  obtain ⟨rfl, rfl⟩ := hw
  obtain ⟨hP, hD⟩ := m_back hB ht
  refine lv_lstore (lv' := [(6, .long b1), (5, .int r1), (0, .ref b), (1, .ref (ax 0)), (2, .ref (am 0)), (3, .ref (ax 110)), (4, .int (1 : Int32))]) hx hb d_L_law_435 hl (by decide) rfl (fun ls hl => ?_)
  refine lv_aload_n hx hb d_L_law_437 rfl (lv_at hl 4 rfl) ?_
  refine va_calli (va_runV (As := []) (rest := []) ⟨hx, hb, hml, hown, hts⟩ (c_M_thrown l (g_M G ax am n z1) zm1 (zm1.1 0 0) zm1 rfl) (cwV 0 hts (x_gV t_767 t_768 t_769 t_7 t_770) rfl rfl rfl (by decide +kernel) ⟨Nat.le_of_ble_eq_true rfl, Nat.le_of_ble_eq_true rfl⟩) ⟨m_blind _ _ _, va_recv hK hP (ci := 5) (q0 := 0) rfl (m_lk_M (g_M G ax am n z1) _), fun U hU hW => ⟨rfl, m_pw hP hD hK trivial hS hz hU hW⟩⟩ rfl rfl hl.1 rfl (lv_room (Nat.le_of_ble_eq_true rfl)) d_L_law_438 ⟨Nat.le_of_ble_eq_true rfl, Nat.le_of_ble_eq_true rfl⟩) hS (fun q _ h => h) (fun q h => h) (fun ra u t H locs ht hvm hw hB _ _ hS => ?_)
  obtain ⟨hw1, hw2⟩ := hw
  subst hw1
  rw [← hw2] at hB
  obtain ⟨hP, hD⟩ := m_back hB ht
  refine lv_iload hx hb d_L_law_441 (lv_at hl 1 rfl) ?_
  refine lv_icmp_eq (tgt := 448) hx hb d_L_law_443 (by decide) (fun _ => ?_) (fun hc => absurd hth hc)
  refine lv_iload hx hb d_L_law_448 (lv_at hl 1 rfl) ?_
  refine lv_if_ne (tgt := 464) hx hb d_L_law_450 (by decide) (fun _ => ?_) (fun hc0 => ?_)
  · refine lv_goto (tgt := 1038) hx hb d_L_law_464 (by decide) ?_
    refine W.widen (k := 600) (n := 20000) (Nat.le_of_ble_eq_true rfl) (Nat.le_of_ble_eq_true rfl) ?_
    exact l_tail l hL6 C0 G hs0 _ _ _ hS (lv_sub hl [2, 6] rfl)
  · refine lv_aload_n hx hb d_L_law_453 rfl (lv_at hl 5 rfl) ?_
    refine lv_iconst (v := (0 : Int32)) hx hb d_L_law_454 (by decide) ?_
    obtain ⟨hP, hD⟩ := l_toX hP hD
    refine va_lald hx hb hK hP 110 4 (x_lk_O (g_X G ax am n zm1) _) rfl (i := (0 : Int32)) (v_d (by decide)) d_L_law_455 ?_
    refine lv_lload hx hb d_L_law_456 (lv_at hl 0 rfl) ?_
    refine W.lcmp hx hb d_L_law_458 ?_
    refine lv_if_eq (tgt := 464) hx hb d_L_law_459 (by decide) (fun _ => ?_) (fun hc => absurd (l_cmp (hout hc0)) hc)
    refine lv_goto (tgt := 1038) hx hb d_L_law_464 (by decide) ?_
    refine W.widen (k := 600) (n := 20000) (Nat.le_of_ble_eq_true rfl) (Nat.le_of_ble_eq_true rfl) ?_
    exact l_tail l hL6 C0 G hs0 _ _ _ hS (lv_sub hl [2, 6] rfl)
set_option maxHeartbeats 4000000 in
set_option maxRecDepth 100000 in
theorem l_case_5 {p : Program} {e : Env} {s : State} {m : MethodId} {below : List Frame} {meth : Method} {c : Code} (l : Launch) {b L : Nat} {xs : Nat → Int32} (hL6 : L = 6) (C0 : lw_At p s m meth c b L xs) (G : x_G) (hs0 : x_s0 G = s.heap.size) (hl9 : l.stackTraces = false) (n : Nat) (hn : n ≤ 40) (hK : va_K (x_D G) vwCl (x_ty G) s) (hG : x_GV G s s.heap) (ax am : Nat → Nat) (zm : x_St) (hm : m_fr n zm) (H : Heap) (locs : List Loc) (ls : Array Slot) (hP : va_P (x_D G) vwCl (x_Wd (g_X G ax am n zm) (x_z0 n)) H) (hD : va_D (x_A G) (x_Wd (g_X G ax am n zm) (x_z0 n))) (hS : va_S (x_A G) s.heap H locs) (hl : lv_has ls 8 [(0, .ref b), (1, .ref (ax 0)), (2, .ref (am 0)), (3, .ref (ax 110)), (4, .int (1 : Int32))]) : W p l e room_1 s m #[Value.ref b] below meth c H locs 137 9525 (lw_Z below #[Value.ref b] s) (F0 m 467 ls []) := by
  obtain ⟨hx, hb, hr, hml, hown, hts9, hX, hbl, hlocks, hgv⟩ := id C0
  have hown : s.vm.findClass "ContentLibraryLaw" = some m.cls := hown
  have hts : ∀ w ∈ x_big, w.before #[Value.ref b] s = true := fun w h => hts9 w (x_bg h).1
  have hbA : ¬ x_A G b := fun h => absurd (show x_s0 G ≤ b from h) (by omega)
  have hz : x_s0 G ≤ s.heap.size := Nat.le_of_eq hs0
  have hG1 : ∀ (ad : Nat → Nat) (n : Nat) (rs : va_W), x_GV (x_mk G ad n rs) s s.heap := fun _ _ _ => hG
  refine lv_aload_n hx hb d_L_law_467 rfl (lv_at hl 1 rfl) ?_
  refine lv_aload_n hx hb d_L_law_468 rfl (lv_at hl 0 rfl) ?_
  refine lv_iload hx hb d_L_law_469 (lv_at hl 4 rfl) ?_
  refine lv_iconst (v := (1 : Int32)) hx hb d_L_law_471 (by decide) ?_
  refine lv_iadd hx hb d_L_law_472 ?_
  refine va_sld hx hb hX hbl hbA hS (i := ((1 : Int32) + (1 : Int32))) (by rw [hL6]; exact v_d (by decide)) d_L_law_473 ?_
  refine lv_aload_n hx hb d_L_law_474 rfl (lv_at hl 0 rfl) ?_
  refine lv_iload hx hb d_L_law_475 (lv_at hl 4 rfl) ?_
  refine lv_iconst (v := (2 : Int32)) hx hb d_L_law_477 (by decide) ?_
  refine lv_iadd hx hb d_L_law_478 ?_
  refine va_sld hx hb hX hbl hbA hS (i := ((1 : Int32) + (2 : Int32))) (by rw [hL6]; exact v_d (by decide)) d_L_law_479 ?_
  refine lv_aload_n hx hb d_L_law_480 rfl (lv_at hl 0 rfl) ?_
  refine lv_iload hx hb d_L_law_481 (lv_at hl 4 rfl) ?_
  refine lv_iconst (v := (3 : Int32)) hx hb d_L_law_483 (by decide) ?_
  refine lv_iadd hx hb d_L_law_484 ?_
  refine va_sld hx hb hX hbl hbA hS (i := ((1 : Int32) + (3 : Int32))) (by rw [hL6]; exact v_d (by decide)) d_L_law_485 ?_
  refine lv_aload_n hx hb d_L_law_486 rfl (lv_at hl 3 rfl) ?_
  obtain ⟨r1, z1, b1, zm1, hq1, hq2, hth, hout⟩ := v_sample (x_fr0 n) hm (xs (((1 : Int32) + (1 : Int32))).toNatClampNeg) (xs (((1 : Int32) + (2 : Int32))).toNatClampNeg) (xs (((1 : Int32) + (3 : Int32))).toNatClampNeg)
  refine va_calli (e_runSW (n := 5) (As := [.ref (ax 0), .int (xs (((1 : Int32) + (1 : Int32))).toNatClampNeg), .int (xs (((1 : Int32) + (2 : Int32))).toNatClampNeg), .int (xs (((1 : Int32) + (3 : Int32))).toNatClampNeg), .ref (ax 110)]) (rest := []) ⟨hx, hb, hml, hown, hts⟩ (fun _ h => h) (c_L_sample l (g_X G ax am n zm) hl9 (xs (((1 : Int32) + (1 : Int32))).toNatClampNeg) (xs (((1 : Int32) + (2 : Int32))).toNatClampNeg) (xs (((1 : Int32) + (3 : Int32))).toNatClampNeg) (x_z0 n) r1 z1 hq1) t_571 t_572 t_0 t_573 rfl rfl ⟨by decide, by decide, by decide +kernel⟩ ⟨Nat.le_of_ble_eq_true rfl, Nat.le_of_ble_eq_true rfl⟩ ⟨x_blind _ _ _, fun U hU hW => ⟨rfl, x_pw hP hD hK (hG1 _ _ _) hS hz hU hW⟩⟩ rfl rfl hl.1 rfl (lv_room (Nat.le_of_ble_eq_true rfl)) d_L_law_487 ⟨Nat.le_of_ble_eq_true rfl, Nat.le_of_ble_eq_true rfl⟩) hS (fun q _ h => h) (fun q h => h) (fun ra u t H locs ht hvm hw hB _ _ hS => ?_)
  obtain ⟨rfl, rfl⟩ := hw
  obtain ⟨hP, hD⟩ := x_back hB ht
  refine lv_istore (lv' := [(5, .int r1), (0, .ref b), (1, .ref (ax 0)), (2, .ref (am 0)), (3, .ref (ax 110)), (4, .int (1 : Int32))]) hx hb d_L_law_490 hl (by decide) rfl (fun ls hl => ?_)
  refine lv_aload_n hx hb d_L_law_492 rfl (lv_at hl 3 rfl) ?_
  refine lv_aload_n hx hb d_L_law_493 rfl (lv_at hl 1 rfl) ?_
  refine lv_iload hx hb d_L_law_494 (lv_at hl 5 rfl) ?_
  refine lv_iconst (v := (1 : Int32)) hx hb d_L_law_496 (by decide) ?_
  refine lv_iadd hx hb d_L_law_497 ?_
  refine va_sld hx hb hX hbl hbA hS (i := ((1 : Int32) + (1 : Int32))) (by rw [hL6]; exact v_d (by decide)) d_L_law_498 ?_
  refine lv_aload_n hx hb d_L_law_499 rfl (lv_at hl 1 rfl) ?_
  refine lv_iload hx hb d_L_law_500 (lv_at hl 5 rfl) ?_
  refine lv_iconst (v := (2 : Int32)) hx hb d_L_law_502 (by decide) ?_
  refine lv_iadd hx hb d_L_law_503 ?_
  refine va_sld hx hb hX hbl hbA hS (i := ((1 : Int32) + (2 : Int32))) (by rw [hL6]; exact v_d (by decide)) d_L_law_504 ?_
  refine lv_aload_n hx hb d_L_law_505 rfl (lv_at hl 1 rfl) ?_
  refine lv_iload hx hb d_L_law_506 (lv_at hl 5 rfl) ?_
  refine lv_iconst (v := (3 : Int32)) hx hb d_L_law_508 (by decide) ?_
  refine lv_iadd hx hb d_L_law_509 ?_
  refine va_sld hx hb hX hbl hbA hS (i := ((1 : Int32) + (3 : Int32))) (by rw [hL6]; exact v_d (by decide)) d_L_law_510 ?_
  obtain ⟨hP, hD⟩ := l_toM hP hD
  refine va_calli (va_runV (As := [.int (xs (((1 : Int32) + (1 : Int32))).toNatClampNeg), .int (xs (((1 : Int32) + (2 : Int32))).toNatClampNeg), .int (xs (((1 : Int32) + (3 : Int32))).toNatClampNeg)]) (rest := []) ⟨hx, hb, hml, hown, hts⟩ (c_M_sample l (g_M G ax am n z1) (xs (((1 : Int32) + (1 : Int32))).toNatClampNeg) (xs (((1 : Int32) + (2 : Int32))).toNatClampNeg) (xs (((1 : Int32) + (3 : Int32))).toNatClampNeg) zm b1 zm1 hq2) (cwV 3 hts (x_gV t_858 t_859 t_860 t_7 t_861) rfl rfl rfl (by decide +kernel) ⟨Nat.le_of_ble_eq_true rfl, Nat.le_of_ble_eq_true rfl⟩) ⟨m_blind _ _ _, va_recv hK hP (ci := 5) (q0 := 0) rfl (m_lk_M (g_M G ax am n z1) _), fun U hU hW => ⟨rfl, m_pw hP hD hK trivial hS hz hU hW⟩⟩ rfl rfl hl.1 rfl (lv_room (Nat.le_of_ble_eq_true rfl)) d_L_law_511 ⟨Nat.le_of_ble_eq_true rfl, Nat.le_of_ble_eq_true rfl⟩) hS (fun q _ h => h) (fun q h => h) (fun ra u t H locs ht hvm hw hB _ _ hS => ?_)
  obtain ⟨rfl, rfl⟩ := hw
  obtain ⟨hP, hD⟩ := m_back hB ht
  refine lv_istore (lv' := [(6, .int b1), (5, .int r1), (0, .ref b), (1, .ref (ax 0)), (2, .ref (am 0)), (3, .ref (ax 110)), (4, .int (1 : Int32))]) hx hb d_L_law_514 hl (by decide) rfl (fun ls hl => ?_)
  refine lv_aload_n hx hb d_L_law_516 rfl (lv_at hl 4 rfl) ?_
  refine va_calli (va_runV (As := []) (rest := []) ⟨hx, hb, hml, hown, hts⟩ (c_M_thrown l (g_M G ax am n z1) zm1 (zm1.1 0 0) zm1 rfl) (cwV 0 hts (x_gV t_767 t_768 t_769 t_7 t_770) rfl rfl rfl (by decide +kernel) ⟨Nat.le_of_ble_eq_true rfl, Nat.le_of_ble_eq_true rfl⟩) ⟨m_blind _ _ _, va_recv hK hP (ci := 5) (q0 := 0) rfl (m_lk_M (g_M G ax am n z1) _), fun U hU hW => ⟨rfl, m_pw hP hD hK trivial hS hz hU hW⟩⟩ rfl rfl hl.1 rfl (lv_room (Nat.le_of_ble_eq_true rfl)) d_L_law_517 ⟨Nat.le_of_ble_eq_true rfl, Nat.le_of_ble_eq_true rfl⟩) hS (fun q _ h => h) (fun q h => h) (fun ra u t H locs ht hvm hw hB _ _ hS => ?_)
  obtain ⟨hw1, hw2⟩ := hw
  subst hw1
  rw [← hw2] at hB
  obtain ⟨hP, hD⟩ := m_back hB ht
  refine lv_iload hx hb d_L_law_520 (lv_at hl 1 rfl) ?_
  refine lv_icmp_eq (tgt := 527) hx hb d_L_law_522 (by decide) (fun _ => ?_) (fun hc => absurd hth hc)
  refine lv_iload hx hb d_L_law_527 (lv_at hl 1 rfl) ?_
  refine lv_if_ne (tgt := 544) hx hb d_L_law_529 (by decide) (fun _ => ?_) (fun hc0 => ?_)
  · refine lv_goto (tgt := 1038) hx hb d_L_law_544 (by decide) ?_
    refine W.widen (k := 600) (n := 20000) (Nat.le_of_ble_eq_true rfl) (Nat.le_of_ble_eq_true rfl) ?_
    exact l_tail l hL6 C0 G hs0 _ _ _ hS (lv_sub hl [2, 6] rfl)
  · refine lv_aload_n hx hb d_L_law_532 rfl (lv_at hl 5 rfl) ?_
    refine lv_iconst (v := (0 : Int32)) hx hb d_L_law_533 (by decide) ?_
    obtain ⟨hP, hD⟩ := l_toX hP hD
    refine va_lald hx hb hK hP 110 4 (x_lk_O (g_X G ax am n zm1) _) rfl (i := (0 : Int32)) (v_d (by decide)) d_L_law_534 ?_
    refine lv_iload hx hb d_L_law_535 (lv_at hl 0 rfl) ?_
    refine lv_i2l (v := (b1).toInt64) hx hb d_L_law_537 rfl ?_
    refine W.lcmp hx hb d_L_law_538 ?_
    refine lv_if_eq (tgt := 544) hx hb d_L_law_539 (by decide) (fun _ => ?_) (fun hc => absurd (l_cmp (hout hc0)) hc)
    refine lv_goto (tgt := 1038) hx hb d_L_law_544 (by decide) ?_
    refine W.widen (k := 600) (n := 20000) (Nat.le_of_ble_eq_true rfl) (Nat.le_of_ble_eq_true rfl) ?_
    exact l_tail l hL6 C0 G hs0 _ _ _ hS (lv_sub hl [2, 6] rfl)
set_option maxHeartbeats 4000000 in
set_option maxRecDepth 100000 in
theorem l_case_6 {p : Program} {e : Env} {s : State} {m : MethodId} {below : List Frame} {meth : Method} {c : Code} (l : Launch) {b L : Nat} {xs : Nat → Int32} (hL6 : L = 6) (C0 : lw_At p s m meth c b L xs) (G : x_G) (hs0 : x_s0 G = s.heap.size) (hl9 : l.stackTraces = false) (n : Nat) (hn : n ≤ 40) (hK : va_K (x_D G) vwCl (x_ty G) s) (hG : x_GV G s s.heap) (ax am : Nat → Nat) (zm : x_St) (hm : m_fr n zm) (H : Heap) (locs : List Loc) (ls : Array Slot) (hP : va_P (x_D G) vwCl (x_Wd (g_X G ax am n zm) (x_z0 n)) H) (hD : va_D (x_A G) (x_Wd (g_X G ax am n zm) (x_z0 n))) (hS : va_S (x_A G) s.heap H locs) (hl : lv_has ls 8 [(0, .ref b), (1, .ref (ax 0)), (2, .ref (am 0)), (3, .ref (ax 110)), (4, .int (1 : Int32))]) : W p l e room_1 s m #[Value.ref b] below meth c H locs 137 9525 (lw_Z below #[Value.ref b] s) (F0 m 547 ls []) := by
  obtain ⟨hx, hb, hr, hml, hown, hts9, hX, hbl, hlocks, hgv⟩ := id C0
  have hown : s.vm.findClass "ContentLibraryLaw" = some m.cls := hown
  have hts : ∀ w ∈ x_big, w.before #[Value.ref b] s = true := fun w h => hts9 w (x_bg h).1
  have hbA : ¬ x_A G b := fun h => absurd (show x_s0 G ≤ b from h) (by omega)
  have hz : x_s0 G ≤ s.heap.size := Nat.le_of_eq hs0
  have hG1 : ∀ (ad : Nat → Nat) (n : Nat) (rs : va_W), x_GV (x_mk G ad n rs) s s.heap := fun _ _ _ => hG
  refine lv_aload_n hx hb d_L_law_547 rfl (lv_at hl 1 rfl) ?_
  refine lv_aload_n hx hb d_L_law_548 rfl (lv_at hl 0 rfl) ?_
  refine lv_iload hx hb d_L_law_549 (lv_at hl 4 rfl) ?_
  refine lv_iconst (v := (1 : Int32)) hx hb d_L_law_551 (by decide) ?_
  refine lv_iadd hx hb d_L_law_552 ?_
  refine va_sld hx hb hX hbl hbA hS (i := ((1 : Int32) + (1 : Int32))) (by rw [hL6]; exact v_d (by decide)) d_L_law_553 ?_
  refine lv_aload_n hx hb d_L_law_554 rfl (lv_at hl 0 rfl) ?_
  refine lv_iload hx hb d_L_law_555 (lv_at hl 4 rfl) ?_
  refine lv_iconst (v := (2 : Int32)) hx hb d_L_law_557 (by decide) ?_
  refine lv_iadd hx hb d_L_law_558 ?_
  refine va_sld hx hb hX hbl hbA hS (i := ((1 : Int32) + (2 : Int32))) (by rw [hL6]; exact v_d (by decide)) d_L_law_559 ?_
  refine lv_aload_n hx hb d_L_law_560 rfl (lv_at hl 3 rfl) ?_
  obtain ⟨r1, z1, b1, zm1, hq1, hq2, hth, hout⟩ := v_near (x_fr0 n) hm (xs (((1 : Int32) + (1 : Int32))).toNatClampNeg) (xs (((1 : Int32) + (2 : Int32))).toNatClampNeg)
  refine va_calli (e_runSW (n := 4) (As := [.ref (ax 0), .int (xs (((1 : Int32) + (1 : Int32))).toNatClampNeg), .int (xs (((1 : Int32) + (2 : Int32))).toNatClampNeg), .ref (ax 110)]) (rest := []) ⟨hx, hb, hml, hown, hts⟩ (fun _ h => h) (c_L_near l (g_X G ax am n zm) hl9 (xs (((1 : Int32) + (1 : Int32))).toNatClampNeg) (xs (((1 : Int32) + (2 : Int32))).toNatClampNeg) (x_z0 n) r1 z1 hq1) t_582 t_583 t_0 t_584 rfl rfl ⟨by decide, by decide, by decide +kernel⟩ ⟨Nat.le_of_ble_eq_true rfl, Nat.le_of_ble_eq_true rfl⟩ ⟨x_blind _ _ _, fun U hU hW => ⟨rfl, x_pw hP hD hK (hG1 _ _ _) hS hz hU hW⟩⟩ rfl rfl hl.1 rfl (lv_room (Nat.le_of_ble_eq_true rfl)) d_L_law_561 ⟨Nat.le_of_ble_eq_true rfl, Nat.le_of_ble_eq_true rfl⟩) hS (fun q _ h => h) (fun q h => h) (fun ra u t H locs ht hvm hw hB _ _ hS => ?_)
  obtain ⟨rfl, rfl⟩ := hw
  obtain ⟨hP, hD⟩ := x_back hB ht
  refine lv_istore (lv' := [(5, .int r1), (0, .ref b), (1, .ref (ax 0)), (2, .ref (am 0)), (3, .ref (ax 110)), (4, .int (1 : Int32))]) hx hb d_L_law_564 hl (by decide) rfl (fun ls hl => ?_)
  refine lv_aload_n hx hb d_L_law_566 rfl (lv_at hl 3 rfl) ?_
  refine lv_aload_n hx hb d_L_law_567 rfl (lv_at hl 1 rfl) ?_
  refine lv_iload hx hb d_L_law_568 (lv_at hl 5 rfl) ?_
  refine lv_iconst (v := (1 : Int32)) hx hb d_L_law_570 (by decide) ?_
  refine lv_iadd hx hb d_L_law_571 ?_
  refine va_sld hx hb hX hbl hbA hS (i := ((1 : Int32) + (1 : Int32))) (by rw [hL6]; exact v_d (by decide)) d_L_law_572 ?_
  refine lv_aload_n hx hb d_L_law_573 rfl (lv_at hl 1 rfl) ?_
  refine lv_iload hx hb d_L_law_574 (lv_at hl 5 rfl) ?_
  refine lv_iconst (v := (2 : Int32)) hx hb d_L_law_576 (by decide) ?_
  refine lv_iadd hx hb d_L_law_577 ?_
  refine va_sld hx hb hX hbl hbA hS (i := ((1 : Int32) + (2 : Int32))) (by rw [hL6]; exact v_d (by decide)) d_L_law_578 ?_
  obtain ⟨hP, hD⟩ := l_toM hP hD
  refine va_calli (va_runV (As := [.int (xs (((1 : Int32) + (1 : Int32))).toNatClampNeg), .int (xs (((1 : Int32) + (2 : Int32))).toNatClampNeg)]) (rest := []) ⟨hx, hb, hml, hown, hts⟩ (c_M_near l (g_M G ax am n z1) (xs (((1 : Int32) + (1 : Int32))).toNatClampNeg) (xs (((1 : Int32) + (2 : Int32))).toNatClampNeg) zm b1 zm1 hq2) (cwV 2 hts (x_gV t_862 t_863 t_864 t_7 t_865) rfl rfl rfl (by decide +kernel) ⟨Nat.le_of_ble_eq_true rfl, Nat.le_of_ble_eq_true rfl⟩) ⟨m_blind _ _ _, va_recv hK hP (ci := 5) (q0 := 0) rfl (m_lk_M (g_M G ax am n z1) _), fun U hU hW => ⟨rfl, m_pw hP hD hK trivial hS hz hU hW⟩⟩ rfl rfl hl.1 rfl (lv_room (Nat.le_of_ble_eq_true rfl)) d_L_law_579 ⟨Nat.le_of_ble_eq_true rfl, Nat.le_of_ble_eq_true rfl⟩) hS (fun q _ h => h) (fun q h => h) (fun ra u t H locs ht hvm hw hB _ _ hS => ?_)
  obtain ⟨rfl, rfl⟩ := hw
  obtain ⟨hP, hD⟩ := m_back hB ht
  refine lv_istore (lv' := [(6, .int b1), (5, .int r1), (0, .ref b), (1, .ref (ax 0)), (2, .ref (am 0)), (3, .ref (ax 110)), (4, .int (1 : Int32))]) hx hb d_L_law_582 hl (by decide) rfl (fun ls hl => ?_)
  refine lv_aload_n hx hb d_L_law_584 rfl (lv_at hl 4 rfl) ?_
  refine va_calli (va_runV (As := []) (rest := []) ⟨hx, hb, hml, hown, hts⟩ (c_M_thrown l (g_M G ax am n z1) zm1 (zm1.1 0 0) zm1 rfl) (cwV 0 hts (x_gV t_767 t_768 t_769 t_7 t_770) rfl rfl rfl (by decide +kernel) ⟨Nat.le_of_ble_eq_true rfl, Nat.le_of_ble_eq_true rfl⟩) ⟨m_blind _ _ _, va_recv hK hP (ci := 5) (q0 := 0) rfl (m_lk_M (g_M G ax am n z1) _), fun U hU hW => ⟨rfl, m_pw hP hD hK trivial hS hz hU hW⟩⟩ rfl rfl hl.1 rfl (lv_room (Nat.le_of_ble_eq_true rfl)) d_L_law_585 ⟨Nat.le_of_ble_eq_true rfl, Nat.le_of_ble_eq_true rfl⟩) hS (fun q _ h => h) (fun q h => h) (fun ra u t H locs ht hvm hw hB _ _ hS => ?_)
  obtain ⟨hw1, hw2⟩ := hw
  subst hw1
  rw [← hw2] at hB
  obtain ⟨hP, hD⟩ := m_back hB ht
  refine lv_iload hx hb d_L_law_588 (lv_at hl 1 rfl) ?_
  refine lv_icmp_eq (tgt := 595) hx hb d_L_law_590 (by decide) (fun _ => ?_) (fun hc => absurd hth hc)
  refine lv_iload hx hb d_L_law_595 (lv_at hl 1 rfl) ?_
  refine lv_if_ne (tgt := 612) hx hb d_L_law_597 (by decide) (fun _ => ?_) (fun hc0 => ?_)
  · refine lv_goto (tgt := 1038) hx hb d_L_law_612 (by decide) ?_
    refine W.widen (k := 600) (n := 20000) (Nat.le_of_ble_eq_true rfl) (Nat.le_of_ble_eq_true rfl) ?_
    exact l_tail l hL6 C0 G hs0 _ _ _ hS (lv_sub hl [2, 6] rfl)
  · refine lv_aload_n hx hb d_L_law_600 rfl (lv_at hl 5 rfl) ?_
    refine lv_iconst (v := (0 : Int32)) hx hb d_L_law_601 (by decide) ?_
    obtain ⟨hP, hD⟩ := l_toX hP hD
    refine va_lald hx hb hK hP 110 4 (x_lk_O (g_X G ax am n zm1) _) rfl (i := (0 : Int32)) (v_d (by decide)) d_L_law_602 ?_
    refine lv_iload hx hb d_L_law_603 (lv_at hl 0 rfl) ?_
    refine lv_i2l (v := (b1).toInt64) hx hb d_L_law_605 rfl ?_
    refine W.lcmp hx hb d_L_law_606 ?_
    refine lv_if_eq (tgt := 612) hx hb d_L_law_607 (by decide) (fun _ => ?_) (fun hc => absurd (l_cmp (hout hc0)) hc)
    refine lv_goto (tgt := 1038) hx hb d_L_law_612 (by decide) ?_
    refine W.widen (k := 600) (n := 20000) (Nat.le_of_ble_eq_true rfl) (Nat.le_of_ble_eq_true rfl) ?_
    exact l_tail l hL6 C0 G hs0 _ _ _ hS (lv_sub hl [2, 6] rfl)
set_option maxHeartbeats 4000000 in
set_option maxRecDepth 100000 in
theorem l_case_7 {p : Program} {e : Env} {s : State} {m : MethodId} {below : List Frame} {meth : Method} {c : Code} (l : Launch) {b L : Nat} {xs : Nat → Int32} (hL6 : L = 6) (C0 : lw_At p s m meth c b L xs) (G : x_G) (hs0 : x_s0 G = s.heap.size) (hl9 : l.stackTraces = false) (n : Nat) (hn : n ≤ 40) (hK : va_K (x_D G) vwCl (x_ty G) s) (hG : x_GV G s s.heap) (ax am : Nat → Nat) (zm : x_St) (hm : m_fr n zm) (H : Heap) (locs : List Loc) (ls : Array Slot) (hP : va_P (x_D G) vwCl (x_Wd (g_X G ax am n zm) (x_z0 n)) H) (hD : va_D (x_A G) (x_Wd (g_X G ax am n zm) (x_z0 n))) (hS : va_S (x_A G) s.heap H locs) (hl : lv_has ls 8 [(0, .ref b), (1, .ref (ax 0)), (2, .ref (am 0)), (3, .ref (ax 110)), (4, .int (1 : Int32))]) : W p l e room_1 s m #[Value.ref b] below meth c H locs 137 9525 (lw_Z below #[Value.ref b] s) (F0 m 615 ls []) := by
  obtain ⟨hx, hb, hr, hml, hown, hts9, hX, hbl, hlocks, hgv⟩ := id C0
  have hown : s.vm.findClass "ContentLibraryLaw" = some m.cls := hown
  have hts : ∀ w ∈ x_big, w.before #[Value.ref b] s = true := fun w h => hts9 w (x_bg h).1
  have hbA : ¬ x_A G b := fun h => absurd (show x_s0 G ≤ b from h) (by omega)
  have hz : x_s0 G ≤ s.heap.size := Nat.le_of_eq hs0
  have hG1 : ∀ (ad : Nat → Nat) (n : Nat) (rs : va_W), x_GV (x_mk G ad n rs) s s.heap := fun _ _ _ => hG
  refine lv_aload_n hx hb d_L_law_615 rfl (lv_at hl 1 rfl) ?_
  refine lv_aload_n hx hb d_L_law_616 rfl (lv_at hl 0 rfl) ?_
  refine lv_iload hx hb d_L_law_617 (lv_at hl 4 rfl) ?_
  refine lv_iconst (v := (1 : Int32)) hx hb d_L_law_619 (by decide) ?_
  refine lv_iadd hx hb d_L_law_620 ?_
  refine va_sld hx hb hX hbl hbA hS (i := ((1 : Int32) + (1 : Int32))) (by rw [hL6]; exact v_d (by decide)) d_L_law_621 ?_
  refine lv_aload_n hx hb d_L_law_622 rfl (lv_at hl 0 rfl) ?_
  refine lv_iload hx hb d_L_law_623 (lv_at hl 4 rfl) ?_
  refine lv_iconst (v := (2 : Int32)) hx hb d_L_law_625 (by decide) ?_
  refine lv_iadd hx hb d_L_law_626 ?_
  refine va_sld hx hb hX hbl hbA hS (i := ((1 : Int32) + (2 : Int32))) (by rw [hL6]; exact v_d (by decide)) d_L_law_627 ?_
  refine lv_aload_n hx hb d_L_law_628 rfl (lv_at hl 3 rfl) ?_
  obtain ⟨r1, z1, b1, zm1, hq1, hq2, hth, hout⟩ := v_found (x_fr0 n) hm (xs (((1 : Int32) + (1 : Int32))).toNatClampNeg) (xs (((1 : Int32) + (2 : Int32))).toNatClampNeg)
  refine va_calli (e_runSW (n := 4) (As := [.ref (ax 0), .int (xs (((1 : Int32) + (1 : Int32))).toNatClampNeg), .int (xs (((1 : Int32) + (2 : Int32))).toNatClampNeg), .ref (ax 110)]) (rest := []) ⟨hx, hb, hml, hown, hts⟩ (fun _ h => h) (c_L_found l (g_X G ax am n zm) hl9 (xs (((1 : Int32) + (1 : Int32))).toNatClampNeg) (xs (((1 : Int32) + (2 : Int32))).toNatClampNeg) (x_z0 n) r1 z1 hq1) t_600 t_601 t_0 t_602 rfl rfl ⟨by decide, by decide, by decide +kernel⟩ ⟨Nat.le_of_ble_eq_true rfl, Nat.le_of_ble_eq_true rfl⟩ ⟨x_blind _ _ _, fun U hU hW => ⟨rfl, x_pw hP hD hK (hG1 _ _ _) hS hz hU hW⟩⟩ rfl rfl hl.1 rfl (lv_room (Nat.le_of_ble_eq_true rfl)) d_L_law_629 ⟨Nat.le_of_ble_eq_true rfl, Nat.le_of_ble_eq_true rfl⟩) hS (fun q _ h => h) (fun q h => h) (fun ra u t H locs ht hvm hw hB _ _ hS => ?_)
  obtain ⟨rfl, rfl⟩ := hw
  obtain ⟨hP, hD⟩ := x_back hB ht
  refine lv_istore (lv' := [(5, .int r1), (0, .ref b), (1, .ref (ax 0)), (2, .ref (am 0)), (3, .ref (ax 110)), (4, .int (1 : Int32))]) hx hb d_L_law_632 hl (by decide) rfl (fun ls hl => ?_)
  refine lv_aload_n hx hb d_L_law_634 rfl (lv_at hl 3 rfl) ?_
  refine lv_aload_n hx hb d_L_law_635 rfl (lv_at hl 1 rfl) ?_
  refine lv_iload hx hb d_L_law_636 (lv_at hl 5 rfl) ?_
  refine lv_iconst (v := (1 : Int32)) hx hb d_L_law_638 (by decide) ?_
  refine lv_iadd hx hb d_L_law_639 ?_
  refine va_sld hx hb hX hbl hbA hS (i := ((1 : Int32) + (1 : Int32))) (by rw [hL6]; exact v_d (by decide)) d_L_law_640 ?_
  refine lv_aload_n hx hb d_L_law_641 rfl (lv_at hl 1 rfl) ?_
  refine lv_iload hx hb d_L_law_642 (lv_at hl 5 rfl) ?_
  refine lv_iconst (v := (2 : Int32)) hx hb d_L_law_644 (by decide) ?_
  refine lv_iadd hx hb d_L_law_645 ?_
  refine va_sld hx hb hX hbl hbA hS (i := ((1 : Int32) + (2 : Int32))) (by rw [hL6]; exact v_d (by decide)) d_L_law_646 ?_
  obtain ⟨hP, hD⟩ := l_toM hP hD
  refine va_calli (va_runV (As := [.int (xs (((1 : Int32) + (1 : Int32))).toNatClampNeg), .int (xs (((1 : Int32) + (2 : Int32))).toNatClampNeg)]) (rest := []) ⟨hx, hb, hml, hown, hts⟩ (c_M_found l (g_M G ax am n z1) (xs (((1 : Int32) + (1 : Int32))).toNatClampNeg) (xs (((1 : Int32) + (2 : Int32))).toNatClampNeg) zm b1 zm1 hq2) (cwV 2 hts (x_gV t_869 t_870 t_871 t_7 t_872) rfl rfl rfl (by decide +kernel) ⟨Nat.le_of_ble_eq_true rfl, Nat.le_of_ble_eq_true rfl⟩) ⟨m_blind _ _ _, va_recv hK hP (ci := 5) (q0 := 0) rfl (m_lk_M (g_M G ax am n z1) _), fun U hU hW => ⟨rfl, m_pw hP hD hK trivial hS hz hU hW⟩⟩ rfl rfl hl.1 rfl (lv_room (Nat.le_of_ble_eq_true rfl)) d_L_law_647 ⟨Nat.le_of_ble_eq_true rfl, Nat.le_of_ble_eq_true rfl⟩) hS (fun q _ h => h) (fun q h => h) (fun ra u t H locs ht hvm hw hB _ _ hS => ?_)
  obtain ⟨rfl, rfl⟩ := hw
  obtain ⟨hP, hD⟩ := m_back hB ht
  refine lv_istore (lv' := [(6, .int b1), (5, .int r1), (0, .ref b), (1, .ref (ax 0)), (2, .ref (am 0)), (3, .ref (ax 110)), (4, .int (1 : Int32))]) hx hb d_L_law_650 hl (by decide) rfl (fun ls hl => ?_)
  refine lv_aload_n hx hb d_L_law_652 rfl (lv_at hl 4 rfl) ?_
  refine va_calli (va_runV (As := []) (rest := []) ⟨hx, hb, hml, hown, hts⟩ (c_M_thrown l (g_M G ax am n z1) zm1 (zm1.1 0 0) zm1 rfl) (cwV 0 hts (x_gV t_767 t_768 t_769 t_7 t_770) rfl rfl rfl (by decide +kernel) ⟨Nat.le_of_ble_eq_true rfl, Nat.le_of_ble_eq_true rfl⟩) ⟨m_blind _ _ _, va_recv hK hP (ci := 5) (q0 := 0) rfl (m_lk_M (g_M G ax am n z1) _), fun U hU hW => ⟨rfl, m_pw hP hD hK trivial hS hz hU hW⟩⟩ rfl rfl hl.1 rfl (lv_room (Nat.le_of_ble_eq_true rfl)) d_L_law_653 ⟨Nat.le_of_ble_eq_true rfl, Nat.le_of_ble_eq_true rfl⟩) hS (fun q _ h => h) (fun q h => h) (fun ra u t H locs ht hvm hw hB _ _ hS => ?_)
  obtain ⟨hw1, hw2⟩ := hw
  subst hw1
  rw [← hw2] at hB
  obtain ⟨hP, hD⟩ := m_back hB ht
  refine lv_iload hx hb d_L_law_656 (lv_at hl 1 rfl) ?_
  refine lv_icmp_eq (tgt := 663) hx hb d_L_law_658 (by decide) (fun _ => ?_) (fun hc => absurd hth hc)
  refine lv_iload hx hb d_L_law_663 (lv_at hl 1 rfl) ?_
  refine lv_if_ne (tgt := 680) hx hb d_L_law_665 (by decide) (fun _ => ?_) (fun hc0 => ?_)
  · refine lv_goto (tgt := 1038) hx hb d_L_law_680 (by decide) ?_
    refine W.widen (k := 600) (n := 20000) (Nat.le_of_ble_eq_true rfl) (Nat.le_of_ble_eq_true rfl) ?_
    exact l_tail l hL6 C0 G hs0 _ _ _ hS (lv_sub hl [2, 6] rfl)
  · refine lv_aload_n hx hb d_L_law_668 rfl (lv_at hl 5 rfl) ?_
    refine lv_iconst (v := (0 : Int32)) hx hb d_L_law_669 (by decide) ?_
    obtain ⟨hP, hD⟩ := l_toX hP hD
    refine va_lald hx hb hK hP 110 4 (x_lk_O (g_X G ax am n zm1) _) rfl (i := (0 : Int32)) (v_d (by decide)) d_L_law_670 ?_
    refine lv_iload hx hb d_L_law_671 (lv_at hl 0 rfl) ?_
    refine lv_i2l (v := (b1).toInt64) hx hb d_L_law_673 rfl ?_
    refine W.lcmp hx hb d_L_law_674 ?_
    refine lv_if_eq (tgt := 680) hx hb d_L_law_675 (by decide) (fun _ => ?_) (fun hc => absurd (l_cmp (hout hc0)) hc)
    refine lv_goto (tgt := 1038) hx hb d_L_law_680 (by decide) ?_
    refine W.widen (k := 600) (n := 20000) (Nat.le_of_ble_eq_true rfl) (Nat.le_of_ble_eq_true rfl) ?_
    exact l_tail l hL6 C0 G hs0 _ _ _ hS (lv_sub hl [2, 6] rfl)
