theorem dd_La_467 : decode code 467 = .ok (.aload_n 1, 1) := by decide +kernel
theorem dd_La_468 : decode code 468 = .ok (.aload_n 0, 1) := by decide +kernel
theorem dd_La_469 : decode code 469 = .ok (.iload_n 3, 1) := by decide +kernel
theorem dd_La_470 : decode code 470 = .ok (.iconst 1, 1) := by decide +kernel
theorem dd_La_471 : decode code 471 = .ok (.iadd, 1) := by decide +kernel
theorem dd_La_472 : decode code 472 = .ok (.iaload, 1) := by decide +kernel
theorem dd_La_473 : decode code 473 = .ok (.aload_n 0, 1) := by decide +kernel
theorem dd_La_474 : decode code 474 = .ok (.iload_n 3, 1) := by decide +kernel
theorem dd_La_475 : decode code 475 = .ok (.iconst 2, 1) := by decide +kernel
theorem dd_La_476 : decode code 476 = .ok (.iadd, 1) := by decide +kernel
theorem dd_La_477 : decode code 477 = .ok (.iaload, 1) := by decide +kernel
theorem dd_La_478 : decode code 478 = .ok (.aload_n 0, 1) := by decide +kernel
theorem dd_La_479 : decode code 479 = .ok (.iload_n 3, 1) := by decide +kernel
theorem dd_La_480 : decode code 480 = .ok (.iconst 3, 1) := by decide +kernel
theorem dd_La_481 : decode code 481 = .ok (.iadd, 1) := by decide +kernel
theorem dd_La_482 : decode code 482 = .ok (.iaload, 1) := by decide +kernel
theorem dd_La_483 : decode code 483 = .ok (.invokevirtual 45, 3) := by decide +kernel
theorem dd_La_486 : decode code 486 = .ok (.aload_n 2, 1) := by decide +kernel
theorem dd_La_487 : decode code 487 = .ok (.aload_n 0, 1) := by decide +kernel
theorem dd_La_488 : decode code 488 = .ok (.iload_n 3, 1) := by decide +kernel
theorem dd_La_489 : decode code 489 = .ok (.iconst 1, 1) := by decide +kernel
theorem dd_La_490 : decode code 490 = .ok (.iadd, 1) := by decide +kernel
theorem dd_La_491 : decode code 491 = .ok (.iaload, 1) := by decide +kernel
theorem dd_La_492 : decode code 492 = .ok (.aload_n 0, 1) := by decide +kernel
theorem dd_La_493 : decode code 493 = .ok (.iload_n 3, 1) := by decide +kernel
theorem dd_La_494 : decode code 494 = .ok (.iconst 2, 1) := by decide +kernel
theorem dd_La_495 : decode code 495 = .ok (.iadd, 1) := by decide +kernel
theorem dd_La_496 : decode code 496 = .ok (.iaload, 1) := by decide +kernel
theorem dd_La_497 : decode code 497 = .ok (.aload_n 0, 1) := by decide +kernel
theorem dd_La_498 : decode code 498 = .ok (.iload_n 3, 1) := by decide +kernel
theorem dd_La_499 : decode code 499 = .ok (.iconst 3, 1) := by decide +kernel
theorem dd_La_500 : decode code 500 = .ok (.iadd, 1) := by decide +kernel
theorem dd_La_501 : decode code 501 = .ok (.iaload, 1) := by decide +kernel
theorem dd_La_502 : decode code 502 = .ok (.invokevirtual 48, 3) := by decide +kernel
theorem dd_La_505 : decode code 505 = .ok (.if_icmp .eq 850, 3) := by decide +kernel
theorem dd_La_510 : decode code 510 = .ok (.aload_n 1, 1) := by decide +kernel
theorem dd_La_511 : decode code 511 = .ok (.aload_n 0, 1) := by decide +kernel
theorem dd_La_512 : decode code 512 = .ok (.iload_n 3, 1) := by decide +kernel
theorem dd_La_513 : decode code 513 = .ok (.iconst 1, 1) := by decide +kernel
theorem dd_La_514 : decode code 514 = .ok (.iadd, 1) := by decide +kernel
theorem dd_La_515 : decode code 515 = .ok (.iaload, 1) := by decide +kernel
theorem dd_La_516 : decode code 516 = .ok (.invokevirtual 49, 3) := by decide +kernel
theorem dd_La_519 : decode code 519 = .ok (.aload_n 2, 1) := by decide +kernel
theorem dd_La_520 : decode code 520 = .ok (.aload_n 0, 1) := by decide +kernel
theorem dd_La_521 : decode code 521 = .ok (.iload_n 3, 1) := by decide +kernel
theorem dd_La_522 : decode code 522 = .ok (.iconst 1, 1) := by decide +kernel
theorem dd_La_523 : decode code 523 = .ok (.iadd, 1) := by decide +kernel
theorem dd_La_524 : decode code 524 = .ok (.iaload, 1) := by decide +kernel
theorem dd_La_525 : decode code 525 = .ok (.invokevirtual 52, 3) := by decide +kernel
theorem dd_La_528 : decode code 528 = .ok (.if_icmp .eq 827, 3) := by decide +kernel
theorem dd_La_533 : decode code 533 = .ok (.aload_n 1, 1) := by decide +kernel
theorem dd_La_534 : decode code 534 = .ok (.aload_n 0, 1) := by decide +kernel
theorem dd_La_535 : decode code 535 = .ok (.iload_n 3, 1) := by decide +kernel
theorem dd_La_536 : decode code 536 = .ok (.iconst 1, 1) := by decide +kernel
theorem dd_La_537 : decode code 537 = .ok (.iadd, 1) := by decide +kernel
theorem dd_La_538 : decode code 538 = .ok (.iaload, 1) := by decide +kernel
theorem dd_La_539 : decode code 539 = .ok (.invokevirtual 53, 3) := by decide +kernel
theorem dd_La_542 : decode code 542 = .ok (.aload_n 2, 1) := by decide +kernel
theorem dd_La_543 : decode code 543 = .ok (.aload_n 0, 1) := by decide +kernel
theorem dd_La_544 : decode code 544 = .ok (.iload_n 3, 1) := by decide +kernel
theorem dd_La_545 : decode code 545 = .ok (.iconst 1, 1) := by decide +kernel
theorem dd_La_546 : decode code 546 = .ok (.iadd, 1) := by decide +kernel
theorem dd_La_547 : decode code 547 = .ok (.iaload, 1) := by decide +kernel
theorem dd_La_548 : decode code 548 = .ok (.invokevirtual 56, 3) := by decide +kernel
theorem dd_La_551 : decode code 551 = .ok (.if_icmp .eq 804, 3) := by decide +kernel
theorem dd_La_556 : decode code 556 = .ok (.aload_n 1, 1) := by decide +kernel
theorem dd_La_557 : decode code 557 = .ok (.aload_n 0, 1) := by decide +kernel
theorem dd_La_558 : decode code 558 = .ok (.iload_n 3, 1) := by decide +kernel
theorem dd_La_559 : decode code 559 = .ok (.iconst 1, 1) := by decide +kernel
theorem dd_La_560 : decode code 560 = .ok (.iadd, 1) := by decide +kernel
theorem dd_La_561 : decode code 561 = .ok (.iaload, 1) := by decide +kernel
theorem dd_La_562 : decode code 562 = .ok (.aload_n 0, 1) := by decide +kernel
theorem dd_La_563 : decode code 563 = .ok (.iload_n 3, 1) := by decide +kernel
theorem dd_La_564 : decode code 564 = .ok (.iconst 2, 1) := by decide +kernel
theorem dd_La_565 : decode code 565 = .ok (.iadd, 1) := by decide +kernel
theorem dd_La_566 : decode code 566 = .ok (.iaload, 1) := by decide +kernel
theorem dd_La_567 : decode code 567 = .ok (.invokevirtual 57, 3) := by decide +kernel
theorem dd_La_570 : decode code 570 = .ok (.aload_n 2, 1) := by decide +kernel
theorem dd_La_571 : decode code 571 = .ok (.aload_n 0, 1) := by decide +kernel
theorem dd_La_572 : decode code 572 = .ok (.iload_n 3, 1) := by decide +kernel
theorem dd_La_573 : decode code 573 = .ok (.iconst 1, 1) := by decide +kernel
theorem dd_La_574 : decode code 574 = .ok (.iadd, 1) := by decide +kernel
theorem dd_La_575 : decode code 575 = .ok (.iaload, 1) := by decide +kernel
theorem dd_La_576 : decode code 576 = .ok (.aload_n 0, 1) := by decide +kernel
theorem dd_La_577 : decode code 577 = .ok (.iload_n 3, 1) := by decide +kernel
theorem dd_La_578 : decode code 578 = .ok (.iconst 2, 1) := by decide +kernel
theorem dd_La_579 : decode code 579 = .ok (.iadd, 1) := by decide +kernel
theorem dd_La_580 : decode code 580 = .ok (.iaload, 1) := by decide +kernel
theorem dd_La_581 : decode code 581 = .ok (.invokevirtual 60, 3) := by decide +kernel
theorem dd_La_584 : decode code 584 = .ok (.if_icmp .eq 771, 3) := by decide +kernel
theorem dd_La_589 : decode code 589 = .ok (.aload_n 1, 1) := by decide +kernel
theorem dd_La_590 : decode code 590 = .ok (.aload_n 0, 1) := by decide +kernel
theorem dd_La_591 : decode code 591 = .ok (.iload_n 3, 1) := by decide +kernel
theorem dd_La_592 : decode code 592 = .ok (.iconst 1, 1) := by decide +kernel
theorem dd_La_593 : decode code 593 = .ok (.iadd, 1) := by decide +kernel
theorem dd_La_594 : decode code 594 = .ok (.iaload, 1) := by decide +kernel
theorem dd_La_595 : decode code 595 = .ok (.aload_n 0, 1) := by decide +kernel
theorem dd_La_596 : decode code 596 = .ok (.iload_n 3, 1) := by decide +kernel
theorem dd_La_597 : decode code 597 = .ok (.iconst 2, 1) := by decide +kernel
theorem dd_La_598 : decode code 598 = .ok (.iadd, 1) := by decide +kernel
theorem dd_La_599 : decode code 599 = .ok (.iaload, 1) := by decide +kernel
theorem dd_La_600 : decode code 600 = .ok (.invokevirtual 61, 3) := by decide +kernel
theorem dd_La_603 : decode code 603 = .ok (.aload_n 2, 1) := by decide +kernel
theorem dd_La_604 : decode code 604 = .ok (.aload_n 0, 1) := by decide +kernel
theorem dd_La_605 : decode code 605 = .ok (.iload_n 3, 1) := by decide +kernel
theorem dd_La_606 : decode code 606 = .ok (.iconst 1, 1) := by decide +kernel
theorem dd_La_607 : decode code 607 = .ok (.iadd, 1) := by decide +kernel
theorem dd_La_608 : decode code 608 = .ok (.iaload, 1) := by decide +kernel
theorem dd_La_609 : decode code 609 = .ok (.aload_n 0, 1) := by decide +kernel
theorem dd_La_610 : decode code 610 = .ok (.iload_n 3, 1) := by decide +kernel
theorem dd_La_611 : decode code 611 = .ok (.iconst 2, 1) := by decide +kernel
theorem dd_La_612 : decode code 612 = .ok (.iadd, 1) := by decide +kernel
theorem dd_La_613 : decode code 613 = .ok (.iaload, 1) := by decide +kernel
theorem dd_La_614 : decode code 614 = .ok (.invokevirtual 64, 3) := by decide +kernel
theorem dd_La_617 : decode code 617 = .ok (.if_icmp .eq 738, 3) := by decide +kernel
theorem dd_La_622 : decode code 622 = .ok (.aload_n 1, 1) := by decide +kernel
theorem dd_La_623 : decode code 623 = .ok (.aload_n 0, 1) := by decide +kernel
theorem dd_La_624 : decode code 624 = .ok (.iload_n 3, 1) := by decide +kernel
theorem dd_La_625 : decode code 625 = .ok (.iconst 1, 1) := by decide +kernel
theorem dd_La_626 : decode code 626 = .ok (.iadd, 1) := by decide +kernel
theorem dd_La_627 : decode code 627 = .ok (.iaload, 1) := by decide +kernel
theorem dd_La_628 : decode code 628 = .ok (.invokevirtual 65, 3) := by decide +kernel
theorem dd_La_631 : decode code 631 = .ok (.aload_n 2, 1) := by decide +kernel
theorem dd_La_632 : decode code 632 = .ok (.aload_n 0, 1) := by decide +kernel
theorem dd_La_633 : decode code 633 = .ok (.iload_n 3, 1) := by decide +kernel
theorem dd_La_634 : decode code 634 = .ok (.iconst 1, 1) := by decide +kernel
theorem dd_La_635 : decode code 635 = .ok (.iadd, 1) := by decide +kernel
theorem dd_La_636 : decode code 636 = .ok (.iaload, 1) := by decide +kernel
theorem dd_La_637 : decode code 637 = .ok (.invokevirtual 68, 3) := by decide +kernel
theorem dd_La_640 : decode code 640 = .ok (.if_icmp .eq 715, 3) := by decide +kernel
theorem dd_La_645 : decode code 645 = .ok (.aload_n 1, 1) := by decide +kernel
theorem dd_La_646 : decode code 646 = .ok (.aload_n 0, 1) := by decide +kernel
theorem dd_La_647 : decode code 647 = .ok (.iload_n 3, 1) := by decide +kernel
theorem dd_La_648 : decode code 648 = .ok (.iconst 1, 1) := by decide +kernel
theorem dd_La_649 : decode code 649 = .ok (.iadd, 1) := by decide +kernel
theorem dd_La_650 : decode code 650 = .ok (.iaload, 1) := by decide +kernel
theorem dd_La_651 : decode code 651 = .ok (.invokevirtual 69, 3) := by decide +kernel
theorem dd_La_654 : decode code 654 = .ok (.aload_n 2, 1) := by decide +kernel
theorem dd_La_655 : decode code 655 = .ok (.aload_n 0, 1) := by decide +kernel
theorem dd_La_656 : decode code 656 = .ok (.iload_n 3, 1) := by decide +kernel
theorem dd_La_657 : decode code 657 = .ok (.iconst 1, 1) := by decide +kernel
theorem dd_La_658 : decode code 658 = .ok (.iadd, 1) := by decide +kernel
theorem dd_La_659 : decode code 659 = .ok (.iaload, 1) := by decide +kernel
theorem dd_La_660 : decode code 660 = .ok (.invokevirtual 72, 3) := by decide +kernel
theorem dd_La_663 : decode code 663 = .ok (.if_icmp .eq 692, 3) := by decide +kernel
set_option maxRecDepth 100000 in
set_option maxHeartbeats 4000000 in
theorem la_put {X : gf_X} {E : gf_E} {Q : State → Prop} {b L : Nat} {xs : Nat → Int32} (C : gf_C X E code 4 "GuardFiguresLaw" room_1) (S : la_S X E b L xs) {μ : gf_M} {i : Int} (hI : gf_I μ) (hi : 0 ≤ i ∧ i + 6 ≤ (L : Int)) (kk : ∀ μ' : gf_M, gf_I μ' → gf_G X E Q 4 la_φ μ' 1355 (la_lv E b i) []) : gf_G X E Q 4 la_φ μ 467 (la_lv E b i) [] := by
  show gf_G X E Q 4 la_φ μ 467 [(3, .int (gf_i i)), (2, .ref (gf_ad E 65)), (1, .ref (gf_ad E 0)), (0, .ref b)] []
  refine gf_aload_n C dd_La_467 2 rfl ?_
  refine gf_aload_n C dd_La_468 3 rfl ?_
  refine gf_iload_n C dd_La_469 0 rfl ?_
  refine gf_iconst C dd_La_470 ?_
  refine gf_iadd C dd_La_471 ?_
  refine gf_sld C S dd_La_472 (by omega) ?_
  refine gf_aload_n C dd_La_473 3 rfl ?_
  refine gf_iload_n C dd_La_474 0 rfl ?_
  refine gf_iconst C dd_La_475 ?_
  refine gf_iadd C dd_La_476 ?_
  refine gf_sld C S dd_La_477 (by omega) ?_
  refine gf_aload_n C dd_La_478 3 rfl ?_
  refine gf_iload_n C dd_La_479 0 rfl ?_
  refine gf_iconst C dd_La_480 ?_
  refine gf_iadd C dd_La_481 ?_
  refine gf_sld C S dd_La_482 (by omega) ?_
  refine gf_callVi2 (st := []) (As := [.int (gf_i (gf_sx xs (i + 1))), .int (gf_i (gf_sx xs (i + 2))), .int (gf_i (gf_sx xs (i + 3)))]) C wk_La_45 gf_cl6 (show gf_is 81 0 0 6 17 by decide) (ct_Fi_put (gf_xl X) E (gf_sx xs (i + 1)) (gf_sx xs (i + 2)) (gf_sx xs (i + 3)) μ (gf_sx_R _ _) (gf_sx_R _ _) (gf_sx_R _ _) hI.tx hI.txb) rfl ⟨rfl, rfl, Nat.le_of_ble_eq_true rfl, Nat.le_of_ble_eq_true rfl⟩ (Nat.le_of_ble_eq_true rfl) rfl dd_La_483 (fun q1 μ1 hR1 hp1 => ?_)
  refine gf_aload_n C dd_La_486 1 rfl ?_
  refine gf_aload_n C dd_La_487 3 rfl ?_
  refine gf_iload_n C dd_La_488 0 rfl ?_
  refine gf_iconst C dd_La_489 ?_
  refine gf_iadd C dd_La_490 ?_
  refine gf_sld C S dd_La_491 (by omega) ?_
  refine gf_aload_n C dd_La_492 3 rfl ?_
  refine gf_iload_n C dd_La_493 0 rfl ?_
  refine gf_iconst C dd_La_494 ?_
  refine gf_iadd C dd_La_495 ?_
  refine gf_sld C S dd_La_496 (by omega) ?_
  refine gf_aload_n C dd_La_497 3 rfl ?_
  refine gf_iload_n C dd_La_498 0 rfl ?_
  refine gf_iconst C dd_La_499 ?_
  refine gf_iadd C dd_La_500 ?_
  refine gf_sld C S dd_La_501 (by omega) ?_
  have v := vw_put (t := gf_sx xs (i + 1)) (i := gf_sx xs (i + 2)) (v := gf_sx xs (i + 3)) hI hp1
  refine gf_callVi2 (st := [.int (gf_i q1)]) (As := [.int (gf_i (gf_sx xs (i + 1))), .int (gf_i (gf_sx xs (i + 2))), .int (gf_i (gf_sx xs (i + 3)))]) C wk_La_48 gf_cl7 (show gf_is 81 65 0 7 26 by decide) (ct_Mo_put (gf_xl X) E (gf_sx xs (i + 1)) (gf_sx xs (i + 2)) (gf_sx xs (i + 3)) μ1 (gf_sx_R _ _) (gf_sx_R _ _) (gf_sx_R _ _) (hI.ts v) (hI.tb v)) rfl ⟨rfl, rfl, Nat.le_of_ble_eq_true rfl, Nat.le_of_ble_eq_true rfl⟩ (Nat.le_of_ble_eq_true rfl) rfl dd_La_502 (fun q2 μ2 hR2 hp2 => ?_)
  have hst := st_put (t := gf_sx xs (i + 1)) (i := gf_sx xs (i + 2)) (v := gf_sx xs (i + 3)) hI hp1 hp2
  exact gf_icmp_eq 1355 C dd_La_505 (by decide) hR1 hR2 (fun _ => kk μ2 hst.2) (fun h => absurd hst.1 h)
set_option maxRecDepth 100000 in
set_option maxHeartbeats 4000000 in
theorem la_fault {X : gf_X} {E : gf_E} {Q : State → Prop} {b L : Nat} {xs : Nat → Int32} (C : gf_C X E code 4 "GuardFiguresLaw" room_1) (S : la_S X E b L xs) {μ : gf_M} {i : Int} (hI : gf_I μ) (hi : 0 ≤ i ∧ i + 6 ≤ (L : Int)) (kk : ∀ μ' : gf_M, gf_I μ' → gf_G X E Q 4 la_φ μ' 1355 (la_lv E b i) []) : gf_G X E Q 4 la_φ μ 510 (la_lv E b i) [] := by
  show gf_G X E Q 4 la_φ μ 510 [(3, .int (gf_i i)), (2, .ref (gf_ad E 65)), (1, .ref (gf_ad E 0)), (0, .ref b)] []
  refine gf_aload_n C dd_La_510 2 rfl ?_
  refine gf_aload_n C dd_La_511 3 rfl ?_
  refine gf_iload_n C dd_La_512 0 rfl ?_
  refine gf_iconst C dd_La_513 ?_
  refine gf_iadd C dd_La_514 ?_
  refine gf_sld C S dd_La_515 (by omega) ?_
  refine gf_callVi2 (st := []) (As := [.int (gf_i (gf_sx xs (i + 1)))]) C wk_La_49 gf_cl6 (show gf_is 81 0 0 6 17 by decide) (ct_Fi_fault (gf_xl X) E (gf_sx xs (i + 1)) μ (gf_sx_R _ _) hI.tx hI.txb) rfl ⟨rfl, rfl, Nat.le_of_ble_eq_true rfl, Nat.le_of_ble_eq_true rfl⟩ (Nat.le_of_ble_eq_true rfl) rfl dd_La_516 (fun q1 μ1 hR1 hp1 => ?_)
  refine gf_aload_n C dd_La_519 1 rfl ?_
  refine gf_aload_n C dd_La_520 3 rfl ?_
  refine gf_iload_n C dd_La_521 0 rfl ?_
  refine gf_iconst C dd_La_522 ?_
  refine gf_iadd C dd_La_523 ?_
  refine gf_sld C S dd_La_524 (by omega) ?_
  have v := vw_fault (t := gf_sx xs (i + 1)) hI hp1
  refine gf_callVi2 (st := [.int (gf_i q1)]) (As := [.int (gf_i (gf_sx xs (i + 1)))]) C wk_La_52 gf_cl7 (show gf_is 81 65 0 7 26 by decide) (ct_Mo_fault (gf_xl X) E (gf_sx xs (i + 1)) μ1 (gf_sx_R _ _) (hI.ts v) (hI.tb v)) rfl ⟨rfl, rfl, Nat.le_of_ble_eq_true rfl, Nat.le_of_ble_eq_true rfl⟩ (Nat.le_of_ble_eq_true rfl) rfl dd_La_525 (fun q2 μ2 hR2 hp2 => ?_)
  have hst := st_fault (t := gf_sx xs (i + 1)) hI hp1 hp2
  exact gf_icmp_eq 1355 C dd_La_528 (by decide) hR1 hR2 (fun _ => kk μ2 hst.2) (fun h => absurd hst.1 h)
set_option maxRecDepth 100000 in
set_option maxHeartbeats 4000000 in
theorem la_house {X : gf_X} {E : gf_E} {Q : State → Prop} {b L : Nat} {xs : Nat → Int32} (C : gf_C X E code 4 "GuardFiguresLaw" room_1) (S : la_S X E b L xs) {μ : gf_M} {i : Int} (hI : gf_I μ) (hi : 0 ≤ i ∧ i + 6 ≤ (L : Int)) (kk : ∀ μ' : gf_M, gf_I μ' → gf_G X E Q 4 la_φ μ' 1355 (la_lv E b i) []) : gf_G X E Q 4 la_φ μ 533 (la_lv E b i) [] := by
  show gf_G X E Q 4 la_φ μ 533 [(3, .int (gf_i i)), (2, .ref (gf_ad E 65)), (1, .ref (gf_ad E 0)), (0, .ref b)] []
  refine gf_aload_n C dd_La_533 2 rfl ?_
  refine gf_aload_n C dd_La_534 3 rfl ?_
  refine gf_iload_n C dd_La_535 0 rfl ?_
  refine gf_iconst C dd_La_536 ?_
  refine gf_iadd C dd_La_537 ?_
  refine gf_sld C S dd_La_538 (by omega) ?_
  refine gf_callVi2 (st := []) (As := [.int (gf_i (gf_sx xs (i + 1)))]) C wk_La_53 gf_cl6 (show gf_is 81 0 0 6 17 by decide) (ct_Fi_house (gf_xl X) E (gf_sx xs (i + 1)) μ (gf_sx_R _ _) hI.tx hI.txb) rfl ⟨rfl, rfl, Nat.le_of_ble_eq_true rfl, Nat.le_of_ble_eq_true rfl⟩ (Nat.le_of_ble_eq_true rfl) rfl dd_La_539 (fun q1 μ1 hR1 hp1 => ?_)
  refine gf_aload_n C dd_La_542 1 rfl ?_
  refine gf_aload_n C dd_La_543 3 rfl ?_
  refine gf_iload_n C dd_La_544 0 rfl ?_
  refine gf_iconst C dd_La_545 ?_
  refine gf_iadd C dd_La_546 ?_
  refine gf_sld C S dd_La_547 (by omega) ?_
  have v := vw_house (t := gf_sx xs (i + 1)) hI hp1
  refine gf_callVi2 (st := [.int (gf_i q1)]) (As := [.int (gf_i (gf_sx xs (i + 1)))]) C wk_La_56 gf_cl7 (show gf_is 81 65 0 7 26 by decide) (ct_Mo_house (gf_xl X) E (gf_sx xs (i + 1)) μ1 (gf_sx_R _ _) (hI.ts v) (hI.tb v)) rfl ⟨rfl, rfl, Nat.le_of_ble_eq_true rfl, Nat.le_of_ble_eq_true rfl⟩ (Nat.le_of_ble_eq_true rfl) rfl dd_La_548 (fun q2 μ2 hR2 hp2 => ?_)
  have hst := st_house (t := gf_sx xs (i + 1)) hI hp1 hp2
  exact gf_icmp_eq 1355 C dd_La_551 (by decide) hR1 hR2 (fun _ => kk μ2 hst.2) (fun h => absurd hst.1 h)
set_option maxRecDepth 100000 in
set_option maxHeartbeats 4000000 in
theorem la_guard {X : gf_X} {E : gf_E} {Q : State → Prop} {b L : Nat} {xs : Nat → Int32} (C : gf_C X E code 4 "GuardFiguresLaw" room_1) (S : la_S X E b L xs) {μ : gf_M} {i : Int} (hI : gf_I μ) (hi : 0 ≤ i ∧ i + 6 ≤ (L : Int)) (kk : ∀ μ' : gf_M, gf_I μ' → gf_G X E Q 4 la_φ μ' 1355 (la_lv E b i) []) : gf_G X E Q 4 la_φ μ 556 (la_lv E b i) [] := by
  show gf_G X E Q 4 la_φ μ 556 [(3, .int (gf_i i)), (2, .ref (gf_ad E 65)), (1, .ref (gf_ad E 0)), (0, .ref b)] []
  refine gf_aload_n C dd_La_556 2 rfl ?_
  refine gf_aload_n C dd_La_557 3 rfl ?_
  refine gf_iload_n C dd_La_558 0 rfl ?_
  refine gf_iconst C dd_La_559 ?_
  refine gf_iadd C dd_La_560 ?_
  refine gf_sld C S dd_La_561 (by omega) ?_
  refine gf_aload_n C dd_La_562 3 rfl ?_
  refine gf_iload_n C dd_La_563 0 rfl ?_
  refine gf_iconst C dd_La_564 ?_
  refine gf_iadd C dd_La_565 ?_
  refine gf_sld C S dd_La_566 (by omega) ?_
  refine gf_callVi2 (st := []) (As := [.int (gf_i (gf_sx xs (i + 1))), .int (gf_i (gf_sx xs (i + 2)))]) C wk_La_57 gf_cl6 (show gf_is 81 0 0 6 17 by decide) (ct_Fi_guard (gf_xl X) E (gf_sx xs (i + 1)) (gf_sx xs (i + 2)) μ (gf_sx_R _ _) (gf_sx_R _ _) hI.c7 hI.G hI.s hI.F) rfl ⟨rfl, rfl, Nat.le_of_ble_eq_true rfl, Nat.le_of_ble_eq_true rfl⟩ (Nat.le_of_ble_eq_true rfl) rfl dd_La_567 (fun q1 μ1 hR1 hp1 => ?_)
  refine gf_aload_n C dd_La_570 1 rfl ?_
  refine gf_aload_n C dd_La_571 3 rfl ?_
  refine gf_iload_n C dd_La_572 0 rfl ?_
  refine gf_iconst C dd_La_573 ?_
  refine gf_iadd C dd_La_574 ?_
  refine gf_sld C S dd_La_575 (by omega) ?_
  refine gf_aload_n C dd_La_576 3 rfl ?_
  refine gf_iload_n C dd_La_577 0 rfl ?_
  refine gf_iconst C dd_La_578 ?_
  refine gf_iadd C dd_La_579 ?_
  refine gf_sld C S dd_La_580 (by omega) ?_
  have v := vw_guard (i := gf_sx xs (i + 1)) (w := gf_sx xs (i + 2)) hI hp1
  refine gf_callVi2 (st := [.int (gf_i q1)]) (As := [.int (gf_i (gf_sx xs (i + 1))), .int (gf_i (gf_sx xs (i + 2)))]) C wk_La_60 gf_cl7 (show gf_is 81 65 0 7 26 by decide) (ct_Mo_guard (gf_xl X) E (gf_sx xs (i + 1)) (gf_sx xs (i + 2)) μ1 (gf_sx_R _ _) (gf_sx_R _ _) (hI.ok v)) rfl ⟨rfl, rfl, Nat.le_of_ble_eq_true rfl, Nat.le_of_ble_eq_true rfl⟩ (Nat.le_of_ble_eq_true rfl) rfl dd_La_581 (fun q2 μ2 hR2 hp2 => ?_)
  have hst := st_guard (i := gf_sx xs (i + 1)) (w := gf_sx xs (i + 2)) hI hp1 hp2
  exact gf_icmp_eq 1355 C dd_La_584 (by decide) hR1 hR2 (fun _ => kk μ2 hst.2) (fun h => absurd hst.1 h)
set_option maxRecDepth 100000 in
set_option maxHeartbeats 4000000 in
theorem la_mark {X : gf_X} {E : gf_E} {Q : State → Prop} {b L : Nat} {xs : Nat → Int32} (C : gf_C X E code 4 "GuardFiguresLaw" room_1) (S : la_S X E b L xs) {μ : gf_M} {i : Int} (hI : gf_I μ) (hi : 0 ≤ i ∧ i + 6 ≤ (L : Int)) (kk : ∀ μ' : gf_M, gf_I μ' → gf_G X E Q 4 la_φ μ' 1355 (la_lv E b i) []) : gf_G X E Q 4 la_φ μ 589 (la_lv E b i) [] := by
  show gf_G X E Q 4 la_φ μ 589 [(3, .int (gf_i i)), (2, .ref (gf_ad E 65)), (1, .ref (gf_ad E 0)), (0, .ref b)] []
  refine gf_aload_n C dd_La_589 2 rfl ?_
  refine gf_aload_n C dd_La_590 3 rfl ?_
  refine gf_iload_n C dd_La_591 0 rfl ?_
  refine gf_iconst C dd_La_592 ?_
  refine gf_iadd C dd_La_593 ?_
  refine gf_sld C S dd_La_594 (by omega) ?_
  refine gf_aload_n C dd_La_595 3 rfl ?_
  refine gf_iload_n C dd_La_596 0 rfl ?_
  refine gf_iconst C dd_La_597 ?_
  refine gf_iadd C dd_La_598 ?_
  refine gf_sld C S dd_La_599 (by omega) ?_
  refine gf_callVi2 (st := []) (As := [.int (gf_i (gf_sx xs (i + 1))), .int (gf_i (gf_sx xs (i + 2)))]) C wk_La_61 gf_cl6 (show gf_is 81 0 0 6 17 by decide) (ct_Fi_mark (gf_xl X) E (gf_sx xs (i + 1)) (gf_sx xs (i + 2)) μ (gf_sx_R _ _) (gf_sx_R _ _) hI.c7 hI.G hI.s hI.F) rfl ⟨rfl, rfl, Nat.le_of_ble_eq_true rfl, Nat.le_of_ble_eq_true rfl⟩ (Nat.le_of_ble_eq_true rfl) rfl dd_La_600 (fun q1 μ1 hR1 hp1 => ?_)
  refine gf_aload_n C dd_La_603 1 rfl ?_
  refine gf_aload_n C dd_La_604 3 rfl ?_
  refine gf_iload_n C dd_La_605 0 rfl ?_
  refine gf_iconst C dd_La_606 ?_
  refine gf_iadd C dd_La_607 ?_
  refine gf_sld C S dd_La_608 (by omega) ?_
  refine gf_aload_n C dd_La_609 3 rfl ?_
  refine gf_iload_n C dd_La_610 0 rfl ?_
  refine gf_iconst C dd_La_611 ?_
  refine gf_iadd C dd_La_612 ?_
  refine gf_sld C S dd_La_613 (by omega) ?_
  have v := vw_mark (i := gf_sx xs (i + 1)) (w := gf_sx xs (i + 2)) hI hp1
  refine gf_callVi2 (st := [.int (gf_i q1)]) (As := [.int (gf_i (gf_sx xs (i + 1))), .int (gf_i (gf_sx xs (i + 2)))]) C wk_La_64 gf_cl7 (show gf_is 81 65 0 7 26 by decide) (ct_Mo_mark (gf_xl X) E (gf_sx xs (i + 1)) (gf_sx xs (i + 2)) μ1 (gf_sx_R _ _) (gf_sx_R _ _) (hI.ok v)) rfl ⟨rfl, rfl, Nat.le_of_ble_eq_true rfl, Nat.le_of_ble_eq_true rfl⟩ (Nat.le_of_ble_eq_true rfl) rfl dd_La_614 (fun q2 μ2 hR2 hp2 => ?_)
  have hst := st_mark (i := gf_sx xs (i + 1)) (w := gf_sx xs (i + 2)) hI hp1 hp2
  exact gf_icmp_eq 1355 C dd_La_617 (by decide) hR1 hR2 (fun _ => kk μ2 hst.2) (fun h => absurd hst.1 h)
set_option maxRecDepth 100000 in
set_option maxHeartbeats 4000000 in
theorem la_figure {X : gf_X} {E : gf_E} {Q : State → Prop} {b L : Nat} {xs : Nat → Int32} (C : gf_C X E code 4 "GuardFiguresLaw" room_1) (S : la_S X E b L xs) {μ : gf_M} {i : Int} (hI : gf_I μ) (hi : 0 ≤ i ∧ i + 6 ≤ (L : Int)) (kk : ∀ μ' : gf_M, gf_I μ' → gf_G X E Q 4 la_φ μ' 1355 (la_lv E b i) []) : gf_G X E Q 4 la_φ μ 622 (la_lv E b i) [] := by
  show gf_G X E Q 4 la_φ μ 622 [(3, .int (gf_i i)), (2, .ref (gf_ad E 65)), (1, .ref (gf_ad E 0)), (0, .ref b)] []
  refine gf_aload_n C dd_La_622 2 rfl ?_
  refine gf_aload_n C dd_La_623 3 rfl ?_
  refine gf_iload_n C dd_La_624 0 rfl ?_
  refine gf_iconst C dd_La_625 ?_
  refine gf_iadd C dd_La_626 ?_
  refine gf_sld C S dd_La_627 (by omega) ?_
  refine gf_callVi2 (st := []) (As := [.int (gf_i (gf_sx xs (i + 1)))]) C wk_La_65 gf_cl6 (show gf_is 81 0 0 6 17 by decide) (ct_Fi_figure (gf_xl X) E (gf_sx xs (i + 1)) μ (gf_sx_R _ _) hI.s) rfl ⟨rfl, rfl, Nat.le_of_ble_eq_true rfl, Nat.le_of_ble_eq_true rfl⟩ (Nat.le_of_ble_eq_true rfl) rfl dd_La_628 (fun q1 μ1 hR1 hp1 => ?_)
  refine gf_aload_n C dd_La_631 1 rfl ?_
  refine gf_aload_n C dd_La_632 3 rfl ?_
  refine gf_iload_n C dd_La_633 0 rfl ?_
  refine gf_iconst C dd_La_634 ?_
  refine gf_iadd C dd_La_635 ?_
  refine gf_sld C S dd_La_636 (by omega) ?_
  have v := vw_figure (k := gf_sx xs (i + 1)) hI hp1
  refine gf_callVi2 (st := [.int (gf_i q1)]) (As := [.int (gf_i (gf_sx xs (i + 1)))]) C wk_La_68 gf_cl7 (show gf_is 81 65 0 7 26 by decide) (ct_Mo_figure (gf_xl X) E (gf_sx xs (i + 1)) μ1 (gf_sx_R _ _) (hI.ok v).2.2.1) rfl ⟨rfl, rfl, Nat.le_of_ble_eq_true rfl, Nat.le_of_ble_eq_true rfl⟩ (Nat.le_of_ble_eq_true rfl) rfl dd_La_637 (fun q2 μ2 hR2 hp2 => ?_)
  have hst := st_figure (k := gf_sx xs (i + 1)) hI hp1 hp2
  exact gf_icmp_eq 1355 C dd_La_640 (by decide) hR1 hR2 (fun _ => kk μ2 hst.2) (fun h => absurd hst.1 h)
set_option maxRecDepth 100000 in
set_option maxHeartbeats 4000000 in
theorem la_add {X : gf_X} {E : gf_E} {Q : State → Prop} {b L : Nat} {xs : Nat → Int32} (C : gf_C X E code 4 "GuardFiguresLaw" room_1) (S : la_S X E b L xs) {μ : gf_M} {i : Int} (hI : gf_I μ) (hi : 0 ≤ i ∧ i + 6 ≤ (L : Int)) (kk : ∀ μ' : gf_M, gf_I μ' → gf_G X E Q 4 la_φ μ' 1355 (la_lv E b i) []) : gf_G X E Q 4 la_φ μ 645 (la_lv E b i) [] := by
  show gf_G X E Q 4 la_φ μ 645 [(3, .int (gf_i i)), (2, .ref (gf_ad E 65)), (1, .ref (gf_ad E 0)), (0, .ref b)] []
  refine gf_aload_n C dd_La_645 2 rfl ?_
  refine gf_aload_n C dd_La_646 3 rfl ?_
  refine gf_iload_n C dd_La_647 0 rfl ?_
  refine gf_iconst C dd_La_648 ?_
  refine gf_iadd C dd_La_649 ?_
  refine gf_sld C S dd_La_650 (by omega) ?_
  refine gf_callVi2 (st := []) (As := [.int (gf_i (gf_sx xs (i + 1)))]) C wk_La_69 gf_cl6 (show gf_is 81 0 0 6 17 by decide) (ct_Fi_add (gf_xl X) E (gf_sx xs (i + 1)) μ (gf_sx_R _ _) hI.c7 hI.s hI.d hI.F) rfl ⟨rfl, rfl, Nat.le_of_ble_eq_true rfl, Nat.le_of_ble_eq_true rfl⟩ (Nat.le_of_ble_eq_true rfl) rfl dd_La_651 (fun q1 μ1 hR1 hp1 => ?_)
  refine gf_aload_n C dd_La_654 1 rfl ?_
  refine gf_aload_n C dd_La_655 3 rfl ?_
  refine gf_iload_n C dd_La_656 0 rfl ?_
  refine gf_iconst C dd_La_657 ?_
  refine gf_iadd C dd_La_658 ?_
  refine gf_sld C S dd_La_659 (by omega) ?_
  have v := vw_add (f := gf_sx xs (i + 1)) hI hp1
  refine gf_callVi2 (st := [.int (gf_i q1)]) (As := [.int (gf_i (gf_sx xs (i + 1)))]) C wk_La_72 gf_cl7 (show gf_is 81 65 0 7 26 by decide) (ct_Mo_add (gf_xl X) E (gf_sx xs (i + 1)) μ1 (gf_sx_R _ _) (hI.ok v).1 (hI.ok v).2.2.1 (hI.ok v).2.2.2.2) rfl ⟨rfl, rfl, Nat.le_of_ble_eq_true rfl, Nat.le_of_ble_eq_true rfl⟩ (Nat.le_of_ble_eq_true rfl) rfl dd_La_660 (fun q2 μ2 hR2 hp2 => ?_)
  have hst := st_add (f := gf_sx xs (i + 1)) hI hp1 hp2
  exact gf_icmp_eq 1355 C dd_La_663 (by decide) hR1 hR2 (fun _ => kk μ2 hst.2) (fun h => absurd hst.1 h)
