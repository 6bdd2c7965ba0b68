/-! the cells by number, and the judgement Wz: by program (wip/whole/gen/mk54.py) -/
theorem g_0 : kdG0.1 0 = (11, 0) := by decide +kernel
theorem g_0_0 : kdG0.2.1 0 0 = some 1 := by decide +kernel
theorem g_0_1 : kdG0.2.1 0 1 = some 3 := by decide +kernel
theorem g_0_2 : kdG0.2.1 0 2 = some 5 := by decide +kernel
theorem g_0_3 : kdG0.2.1 0 3 = some 327 := by decide +kernel
theorem g_0_4 : kdG0.2.1 0 4 = some 336 := by decide +kernel
theorem g_0_5 : kdG0.2.1 0 5 = some 464 := by decide +kernel
theorem g_0_6 : kdG0.2.1 0 6 = some 484 := by decide +kernel
theorem g_0_7 : kdG0.2.1 0 7 = some 491 := by decide +kernel
theorem g_0_8 : kdG0.2.1 0 8 = some 500 := by decide +kernel
theorem g_0_9 : kdG0.2.1 0 9 = some 580 := by decide +kernel
theorem g_0_10 : kdG0.2.1 0 10 = some 588 := by decide +kernel
theorem g_0_11 : kdG0.2.1 0 11 = some 601 := by decide +kernel
theorem g_1 : kdG0.1 1 = (6, 0) := by decide +kernel
theorem g_1_0 : kdG0.2.1 1 0 = some 2 := by decide +kernel
theorem g_2 : kdG0.1 2 = (13, 16) := by decide +kernel
theorem g_3 : kdG0.1 3 = (6, 0) := by decide +kernel
theorem g_3_0 : kdG0.2.1 3 0 = some 4 := by decide +kernel
theorem g_4 : kdG0.1 4 = (13, 3) := by decide +kernel
theorem g_5 : kdG0.1 5 = (17, 3) := by decide +kernel
theorem g_327 : kdG0.1 327 = (4, 0) := by decide +kernel
theorem g_327_0 : kdG0.2.1 327 0 = some 328 := by decide +kernel
theorem g_327_1 : kdG0.2.1 327 1 = some 330 := by decide +kernel
theorem g_327_2 : kdG0.2.1 327 2 = some 332 := by decide +kernel
theorem g_327_3 : kdG0.2.1 327 3 = some 334 := by decide +kernel
theorem g_328 : kdG0.1 328 = (6, 0) := by decide +kernel
theorem g_328_0 : kdG0.2.1 328 0 = some 329 := by decide +kernel
theorem g_329 : kdG0.1 329 = (13, 40) := by decide +kernel
theorem g_330 : kdG0.1 330 = (6, 0) := by decide +kernel
theorem g_330_0 : kdG0.2.1 330 0 = some 331 := by decide +kernel
theorem g_331 : kdG0.1 331 = (13, 40) := by decide +kernel
theorem g_332 : kdG0.1 332 = (6, 0) := by decide +kernel
theorem g_332_0 : kdG0.2.1 332 0 = some 333 := by decide +kernel
theorem g_333 : kdG0.1 333 = (13, 40) := by decide +kernel
theorem g_334 : kdG0.1 334 = (6, 0) := by decide +kernel
theorem g_334_0 : kdG0.2.1 334 0 = some 335 := by decide +kernel
theorem g_335 : kdG0.1 335 = (13, 120) := by decide +kernel
theorem g_336 : kdG0.1 336 = (10, 0) := by decide +kernel
theorem g_336_0 : kdG0.2.1 336 0 = some 337 := by decide +kernel
theorem g_336_1 : kdG0.2.1 336 1 = some 339 := by decide +kernel
theorem g_336_2 : kdG0.2.1 336 2 = some 341 := by decide +kernel
theorem g_336_3 : kdG0.2.1 336 3 = some 343 := by decide +kernel
theorem g_337 : kdG0.1 337 = (6, 0) := by decide +kernel
theorem g_337_0 : kdG0.2.1 337 0 = some 338 := by decide +kernel
theorem g_338 : kdG0.1 338 = (13, 60) := by decide +kernel
theorem g_339 : kdG0.1 339 = (6, 0) := by decide +kernel
theorem g_339_0 : kdG0.2.1 339 0 = some 340 := by decide +kernel
theorem g_340 : kdG0.1 340 = (13, 60) := by decide +kernel
theorem g_341 : kdG0.1 341 = (6, 0) := by decide +kernel
theorem g_341_0 : kdG0.2.1 341 0 = some 342 := by decide +kernel
theorem g_342 : kdG0.1 342 = (13, 60) := by decide +kernel
theorem g_343 : kdG0.1 343 = (16, 60) := by decide +kernel
theorem g_464 : kdG0.1 464 = (7, 0) := by decide +kernel
theorem g_464_0 : kdG0.2.1 464 0 = some 465 := by decide +kernel
theorem g_464_1 : kdG0.2.1 464 1 = some 466 := by decide +kernel
theorem g_465 : kdG0.1 465 = (13, 6) := by decide +kernel
theorem g_466 : kdG0.1 466 = (18, 17) := by decide +kernel
theorem g_484 : kdG0.1 484 = (1, 0) := by decide +kernel
theorem g_484_0 : kdG0.2.1 484 0 = some 485 := by decide +kernel
theorem g_484_1 : kdG0.2.1 484 1 = some 487 := by decide +kernel
theorem g_484_2 : kdG0.2.1 484 2 = some 489 := by decide +kernel
theorem g_485 : kdG0.1 485 = (6, 0) := by decide +kernel
theorem g_485_0 : kdG0.2.1 485 0 = some 486 := by decide +kernel
theorem g_486 : kdG0.1 486 = (13, 60) := by decide +kernel
theorem g_487 : kdG0.1 487 = (6, 0) := by decide +kernel
theorem g_487_0 : kdG0.2.1 487 0 = some 488 := by decide +kernel
theorem g_488 : kdG0.1 488 = (13, 60) := by decide +kernel
theorem g_489 : kdG0.1 489 = (6, 0) := by decide +kernel
theorem g_489_0 : kdG0.2.1 489 0 = some 490 := by decide +kernel
theorem g_490 : kdG0.1 490 = (13, 60) := by decide +kernel
theorem g_491 : kdG0.1 491 = (5, 0) := by decide +kernel
theorem g_491_0 : kdG0.2.1 491 0 = some 336 := by decide +kernel
theorem g_491_1 : kdG0.2.1 491 1 = some 464 := by decide +kernel
theorem g_491_2 : kdG0.2.1 491 2 = some 492 := by decide +kernel
theorem g_491_3 : kdG0.2.1 491 3 = some 493 := by decide +kernel
theorem g_491_4 : kdG0.2.1 491 4 = some 494 := by decide +kernel
theorem g_491_5 : kdG0.2.1 491 5 = some 495 := by decide +kernel
theorem g_491_6 : kdG0.2.1 491 6 = some 496 := by decide +kernel
theorem g_491_7 : kdG0.2.1 491 7 = some 498 := by decide +kernel
theorem g_492 : kdG0.1 492 = (13, 340) := by decide +kernel
theorem g_493 : kdG0.1 493 = (13, 340) := by decide +kernel
theorem g_494 : kdG0.1 494 = (13, 340) := by decide +kernel
theorem g_495 : kdG0.1 495 = (13, 340) := by decide +kernel
theorem g_496 : kdG0.1 496 = (6, 0) := by decide +kernel
theorem g_496_0 : kdG0.2.1 496 0 = some 497 := by decide +kernel
theorem g_497 : kdG0.1 497 = (13, 4) := by decide +kernel
theorem g_498 : kdG0.1 498 = (6, 0) := by decide +kernel
theorem g_498_0 : kdG0.2.1 498 0 = some 499 := by decide +kernel
theorem g_499 : kdG0.1 499 = (13, 4) := by decide +kernel
theorem g_500 : kdG0.1 500 = (0, 0) := by decide +kernel
theorem g_500_0 : kdG0.2.1 500 0 = some 336 := by decide +kernel
theorem g_500_1 : kdG0.2.1 500 1 = some 501 := by decide +kernel
theorem g_500_3 : kdG0.2.1 500 3 = some 562 := by decide +kernel
theorem g_500_4 : kdG0.2.1 500 4 = some 564 := by decide +kernel
theorem g_500_5 : kdG0.2.1 500 5 = some 566 := by decide +kernel
theorem g_500_6 : kdG0.2.1 500 6 = some 568 := by decide +kernel
theorem g_500_7 : kdG0.2.1 500 7 = some 574 := by decide +kernel
theorem g_501 : kdG0.1 501 = (18, 60) := by decide +kernel
theorem g_562 : kdG0.1 562 = (6, 0) := by decide +kernel
theorem g_562_0 : kdG0.2.1 562 0 = some 563 := by decide +kernel
theorem g_563 : kdG0.1 563 = (13, 5) := by decide +kernel
theorem g_564 : kdG0.1 564 = (6, 0) := by decide +kernel
theorem g_564_0 : kdG0.2.1 564 0 = some 565 := by decide +kernel
theorem g_565 : kdG0.1 565 = (13, 5) := by decide +kernel
theorem g_566 : kdG0.1 566 = (6, 0) := by decide +kernel
theorem g_566_0 : kdG0.2.1 566 0 = some 567 := by decide +kernel
theorem g_567 : kdG0.1 567 = (13, 5) := by decide +kernel
theorem g_568 : kdG0.1 568 = (19, 5) := by decide +kernel
theorem g_574 : kdG0.1 574 = (18, 5) := by decide +kernel
theorem g_580 : kdG0.1 580 = (2, 0) := by decide +kernel
theorem g_580_0 : kdG0.2.1 580 0 = some 581 := by decide +kernel
theorem g_580_1 : kdG0.2.1 580 1 = some 583 := by decide +kernel
theorem g_580_2 : kdG0.2.1 580 2 = some 585 := by decide +kernel
theorem g_580_3 : kdG0.2.1 580 3 = some 587 := by decide +kernel
theorem g_581 : kdG0.1 581 = (6, 0) := by decide +kernel
theorem g_581_0 : kdG0.2.1 581 0 = some 582 := by decide +kernel
theorem g_582 : kdG0.1 582 = (13, 60) := by decide +kernel
theorem g_583 : kdG0.1 583 = (6, 0) := by decide +kernel
theorem g_583_0 : kdG0.2.1 583 0 = some 584 := by decide +kernel
theorem g_584 : kdG0.1 584 = (13, 60) := by decide +kernel
theorem g_585 : kdG0.1 585 = (6, 0) := by decide +kernel
theorem g_585_0 : kdG0.2.1 585 0 = some 586 := by decide +kernel
theorem g_586 : kdG0.1 586 = (13, 60) := by decide +kernel
theorem g_587 : kdG0.1 587 = (13, 4) := by decide +kernel
theorem g_588 : kdG0.1 588 = (3, 0) := by decide +kernel
theorem g_588_1 : kdG0.2.1 588 1 = some 589 := by decide +kernel
theorem g_588_2 : kdG0.2.1 588 2 = some 590 := by decide +kernel
theorem g_588_3 : kdG0.2.1 588 3 = some 591 := by decide +kernel
theorem g_588_4 : kdG0.2.1 588 4 = some 592 := by decide +kernel
theorem g_588_6 : kdG0.2.1 588 6 = some 600 := by decide +kernel
theorem g_589 : kdG0.1 589 = (13, 7) := by decide +kernel
theorem g_590 : kdG0.1 590 = (13, 7) := by decide +kernel
theorem g_591 : kdG0.1 591 = (13, 7) := by decide +kernel
theorem g_592 : kdG0.1 592 = (18, 7) := by decide +kernel
theorem g_600 : kdG0.1 600 = (13, 7) := by decide +kernel
theorem g_601 : kdG0.1 601 = (9, 0) := by decide +kernel
theorem g_601_0 : kdG0.2.1 601 0 = some 588 := by decide +kernel
theorem g_601_1 : kdG0.2.1 601 1 = some 602 := by decide +kernel
theorem g_601_2 : kdG0.2.1 601 2 = some 603 := by decide +kernel
theorem g_601_3 : kdG0.2.1 601 3 = some 604 := by decide +kernel
theorem g_601_4 : kdG0.2.1 601 4 = some 605 := by decide +kernel
theorem g_601_5 : kdG0.2.1 601 5 = some 606 := by decide +kernel
theorem g_601_6 : kdG0.2.1 601 6 = some 607 := by decide +kernel
theorem g_601_7 : kdG0.2.1 601 7 = some 608 := by decide +kernel
theorem g_601_8 : kdG0.2.1 601 8 = some 610 := by decide +kernel
theorem g_602 : kdG0.1 602 = (13, 120) := by decide +kernel
theorem g_603 : kdG0.1 603 = (13, 120) := by decide +kernel
theorem g_604 : kdG0.1 604 = (13, 1200) := by decide +kernel
theorem g_605 : kdG0.1 605 = (13, 120) := by decide +kernel
theorem g_606 : kdG0.1 606 = (15, 120) := by decide +kernel
theorem g_607 : kdG0.1 607 = (13, 120) := by decide +kernel
theorem g_608 : kdG0.1 608 = (6, 0) := by decide +kernel
theorem g_608_0 : kdG0.2.1 608 0 = some 609 := by decide +kernel
theorem g_609 : kdG0.1 609 = (13, 120) := by decide +kernel
theorem g_610 : kdG0.1 610 = (6, 0) := by decide +kernel
theorem g_610_0 : kdG0.2.1 610 0 = some 611 := by decide +kernel
theorem g_611 : kdG0.1 611 = (13, 120) := by decide +kernel
theorem g_612 : kdG0.1 612 = (12, 0) := by decide +kernel
theorem g_612_0 : kdG0.2.1 612 0 = some 613 := by decide +kernel
theorem g_612_2 : kdG0.2.1 612 2 = some 614 := by decide +kernel
theorem g_612_4 : kdG0.2.1 612 4 = some 615 := by decide +kernel
theorem g_612_5 : kdG0.2.1 612 5 = some 616 := by decide +kernel
theorem g_612_7 : kdG0.2.1 612 7 = some 617 := by decide +kernel
theorem g_612_8 : kdG0.2.1 612 8 = some 618 := by decide +kernel
theorem g_612_9 : kdG0.2.1 612 9 = some 619 := by decide +kernel
theorem g_612_10 : kdG0.2.1 612 10 = some 620 := by decide +kernel
theorem g_612_11 : kdG0.2.1 612 11 = some 621 := by decide +kernel
theorem g_612_12 : kdG0.2.1 612 12 = some 622 := by decide +kernel
theorem g_612_13 : kdG0.2.1 612 13 = some 623 := by decide +kernel
theorem g_612_14 : kdG0.2.1 612 14 = some 624 := by decide +kernel
theorem g_612_15 : kdG0.2.1 612 15 = some 625 := by decide +kernel
theorem g_612_16 : kdG0.2.1 612 16 = some 626 := by decide +kernel
theorem g_612_19 : kdG0.2.1 612 19 = some 627 := by decide +kernel
theorem g_612_20 : kdG0.2.1 612 20 = some 628 := by decide +kernel
theorem g_612_22 : kdG0.2.1 612 22 = some 629 := by decide +kernel
theorem g_612_24 : kdG0.2.1 612 24 = some 630 := by decide +kernel
theorem g_612_25 : kdG0.2.1 612 25 = some 631 := by decide +kernel
theorem g_612_26 : kdG0.2.1 612 26 = some 632 := by decide +kernel
theorem g_612_27 : kdG0.2.1 612 27 = some 633 := by decide +kernel
theorem g_612_28 : kdG0.2.1 612 28 = some 634 := by decide +kernel
theorem g_612_30 : kdG0.2.1 612 30 = some 635 := by decide +kernel
theorem g_612_31 : kdG0.2.1 612 31 = some 636 := by decide +kernel
theorem g_612_32 : kdG0.2.1 612 32 = some 637 := by decide +kernel
theorem g_612_33 : kdG0.2.1 612 33 = some 638 := by decide +kernel
theorem g_612_34 : kdG0.2.1 612 34 = some 639 := by decide +kernel
theorem g_612_36 : kdG0.2.1 612 36 = some 640 := by decide +kernel
theorem g_612_37 : kdG0.2.1 612 37 = some 641 := by decide +kernel
theorem g_612_38 : kdG0.2.1 612 38 = some 642 := by decide +kernel
theorem g_612_39 : kdG0.2.1 612 39 = some 643 := by decide +kernel
theorem g_612_40 : kdG0.2.1 612 40 = some 644 := by decide +kernel
theorem g_612_41 : kdG0.2.1 612 41 = some 645 := by decide +kernel
theorem g_612_42 : kdG0.2.1 612 42 = some 646 := by decide +kernel
theorem g_612_43 : kdG0.2.1 612 43 = some 647 := by decide +kernel
theorem g_612_44 : kdG0.2.1 612 44 = some 648 := by decide +kernel
theorem g_612_46 : kdG0.2.1 612 46 = some 649 := by decide +kernel
theorem g_612_47 : kdG0.2.1 612 47 = some 650 := by decide +kernel
theorem g_612_48 : kdG0.2.1 612 48 = some 651 := by decide +kernel
theorem g_612_49 : kdG0.2.1 612 49 = some 652 := by decide +kernel
theorem g_612_50 : kdG0.2.1 612 50 = some 653 := by decide +kernel
theorem g_612_53 : kdG0.2.1 612 53 = some 654 := by decide +kernel
theorem g_612_56 : kdG0.2.1 612 56 = some 655 := by decide +kernel
theorem g_612_57 : kdG0.2.1 612 57 = some 656 := by decide +kernel
theorem g_612_58 : kdG0.2.1 612 58 = some 657 := by decide +kernel
theorem g_612_59 : kdG0.2.1 612 59 = some 658 := by decide +kernel
theorem g_612_61 : kdG0.2.1 612 61 = some 659 := by decide +kernel
theorem g_612_62 : kdG0.2.1 612 62 = some 660 := by decide +kernel
theorem g_612_63 : kdG0.2.1 612 63 = some 661 := by decide +kernel
theorem g_612_64 : kdG0.2.1 612 64 = some 662 := by decide +kernel
theorem g_613 : kdG0.1 613 = (13, 16) := by decide +kernel
theorem g_614 : kdG0.1 614 = (13, 3) := by decide +kernel
theorem g_615 : kdG0.1 615 = (13, 5) := by decide +kernel
theorem g_616 : kdG0.1 616 = (15, 5) := by decide +kernel
theorem g_617 : kdG0.1 617 = (13, 288) := by decide +kernel
theorem g_618 : kdG0.1 618 = (13, 72) := by decide +kernel
theorem g_619 : kdG0.1 619 = (13, 216) := by decide +kernel
theorem g_620 : kdG0.1 620 = (13, 72) := by decide +kernel
theorem g_621 : kdG0.1 621 = (13, 3) := by decide +kernel
theorem g_622 : kdG0.1 622 = (13, 108) := by decide +kernel
theorem g_623 : kdG0.1 623 = (13, 3) := by decide +kernel
theorem g_624 : kdG0.1 624 = (15, 183) := by decide +kernel
theorem g_625 : kdG0.1 625 = (15, 61) := by decide +kernel
theorem g_626 : kdG0.1 626 = (13, 40) := by decide +kernel
theorem g_627 : kdG0.1 627 = (13, 40) := by decide +kernel
theorem g_628 : kdG0.1 628 = (13, 40) := by decide +kernel
theorem g_629 : kdG0.1 629 = (13, 120) := by decide +kernel
theorem g_630 : kdG0.1 630 = (13, 60) := by decide +kernel
theorem g_631 : kdG0.1 631 = (13, 60) := by decide +kernel
theorem g_632 : kdG0.1 632 = (13, 60) := by decide +kernel
theorem g_633 : kdG0.1 633 = (13, 60) := by decide +kernel
theorem g_634 : kdG0.1 634 = (13, 480) := by decide +kernel
theorem g_635 : kdG0.1 635 = (13, 6) := by decide +kernel
theorem g_636 : kdG0.1 636 = (13, 153) := by decide +kernel
theorem g_637 : kdG0.1 637 = (13, 60) := by decide +kernel
theorem g_638 : kdG0.1 638 = (13, 60) := by decide +kernel
theorem g_639 : kdG0.1 639 = (13, 60) := by decide +kernel
theorem g_640 : kdG0.1 640 = (13, 340) := by decide +kernel
theorem g_641 : kdG0.1 641 = (14, 340) := by decide +kernel
theorem g_642 : kdG0.1 642 = (13, 340) := by decide +kernel
theorem g_643 : kdG0.1 643 = (13, 4) := by decide +kernel
theorem g_644 : kdG0.1 644 = (13, 4) := by decide +kernel
theorem g_645 : kdG0.1 645 = (13, 9600) := by decide +kernel
theorem g_646 : kdG0.1 646 = (13, 40) := by decide +kernel
theorem g_647 : kdG0.1 647 = (13, 40) := by decide +kernel
theorem g_648 : kdG0.1 648 = (13, 40) := by decide +kernel
theorem g_649 : kdG0.1 649 = (14, 300) := by decide +kernel
theorem g_650 : kdG0.1 650 = (13, 5) := by decide +kernel
theorem g_651 : kdG0.1 651 = (13, 60) := by decide +kernel
theorem g_652 : kdG0.1 652 = (13, 60) := by decide +kernel
theorem g_653 : kdG0.1 653 = (13, 60) := by decide +kernel
theorem g_654 : kdG0.1 654 = (13, 4) := by decide +kernel
theorem g_655 : kdG0.1 655 = (13, 7) := by decide +kernel
theorem g_656 : kdG0.1 656 = (13, 7) := by decide +kernel
theorem g_657 : kdG0.1 657 = (13, 7) := by decide +kernel
theorem g_658 : kdG0.1 658 = (13, 49) := by decide +kernel
theorem g_659 : kdG0.1 659 = (13, 7) := by decide +kernel
theorem g_660 : kdG0.1 660 = (13, 120) := by decide +kernel
theorem g_661 : kdG0.1 661 = (13, 120) := by decide +kernel
theorem g_662 : kdG0.1 662 = (13, 120) := by decide +kernel
def kRow (a n : Nat) : Prop := kdG0.1 a = (6, 0) ∧ kdG0.2.1 a 0 = some (a + 1) ∧ kdG0.1 (a + 1) = (13, n)
def isT (T : Nat) : Prop := T = 6 ∨ T = 113 ∨ T = 220
theorem g_all (n : Nat) (p : Nat → Prop) (h : ∀ x : Fin n, p x.val) {i : Int} (h0 : 0 ≤ i) (h1 : i < (n : Int)) : p i.toNat := h ⟨i.toNat, by omega⟩
theorem gT {T : Nat} (h : isT T) : kdG0.1 T = (8, 0) ∧ kdG0.2.1 T 0 = some (T + 1) ∧ kdG0.2.1 T 1 = some (T + 2) ∧ kdG0.2.1 T 3 = some (T + 3) ∧ kdG0.2.1 T 4 = some (T + 5) ∧ kdG0.2.1 T 5 = some (T + 7) ∧ kdG0.2.1 T 6 = some (T + 9) ∧ kdG0.2.1 T 7 = some (T + 10) ∧ kdG0.1 (T + 1) = (16, 24) ∧ kdG0.1 (T + 2) = (16, 24) ∧ kdG0.1 (T + 9) = (15, 61) ∧ kdG0.1 (T + 10) = (15, 61) := by
  rcases h with rfl | rfl | rfl <;> decide +kernel
theorem gT3 {T : Nat} (h : isT T) : kRow (T + 3) 12 := by unfold kRow; rcases h with rfl | rfl | rfl <;> decide +kernel
theorem gT5 {T : Nat} (h : isT T) : kRow (T + 5) 12 := by unfold kRow; rcases h with rfl | rfl | rfl <;> decide +kernel
theorem gT7 {T : Nat} (h : isT T) : kRow (T + 7) 12 := by unfold kRow; rcases h with rfl | rfl | rfl <;> decide +kernel
theorem gTk {T : Nat} (h : isT T) {i : Int} (h0 : 0 ≤ i) (h1 : i < 24) : kdG0.2.1 (T + 1) i.toNat = some (T + 11 + 4 * i.toNat) ∧ kRow (T + 11 + 4 * i.toNat) 4 := by
  unfold kRow
  rcases h with rfl | rfl | rfl <;> exact g_all 24 (fun n => kdG0.2.1 _ n = some (_ + 4 * n) ∧ kdG0.1 (_ + 4 * n) = (6, 0) ∧ kdG0.2.1 (_ + 4 * n) 0 = some (_ + 4 * n + 1) ∧ kdG0.1 (_ + 4 * n + 1) = (13, 4)) (by decide +kernel) h0 h1
theorem gTl {T : Nat} (h : isT T) {i : Int} (h0 : 0 ≤ i) (h1 : i < 24) : kdG0.2.1 (T + 2) i.toNat = some (T + 13 + 4 * i.toNat) ∧ kRow (T + 13 + 4 * i.toNat) 3 := by
  unfold kRow
  rcases h with rfl | rfl | rfl <;> exact g_all 24 (fun n => kdG0.2.1 _ n = some (_ + 4 * n) ∧ kdG0.1 (_ + 4 * n) = (6, 0) ∧ kdG0.2.1 (_ + 4 * n) 0 = some (_ + 4 * n + 1) ∧ kdG0.1 (_ + 4 * n + 1) = (13, 3)) (by decide +kernel) h0 h1
theorem g_to {i : Int} (h0 : 0 ≤ i) (h1 : i < 3) : kdG0.2.1 5 i.toNat = some (6 + 107 * i.toNat) ∧ isT (6 + 107 * i.toNat) := by
  unfold isT
  exact g_all 3 (fun n => kdG0.2.1 5 n = some (6 + 107 * n) ∧ (6 + 107 * n = 6 ∨ 6 + 107 * n = 113 ∨ 6 + 107 * n = 220)) (by decide +kernel) h0 h1
theorem g_wd {i : Int} (h0 : 0 ≤ i) (h1 : i < 60) : kdG0.2.1 343 i.toNat = some (344 + 2 * i.toNat) ∧ kRow (344 + 2 * i.toNat) 8 := by
  unfold kRow
  exact g_all 60 (fun n => kdG0.2.1 343 n = some (344 + 2 * n) ∧ kdG0.1 (344 + 2 * n) = (6, 0) ∧ kdG0.2.1 (344 + 2 * n) 0 = some (344 + 2 * n + 1) ∧ kdG0.1 (344 + 2 * n + 1) = (13, 8)) (by decide +kernel) h0 h1
theorem g_le {i : Int} (h0 : 0 ≤ i) (h1 : i < 17) : kdG0.2.1 466 i.toNat = some (467 + i.toNat) ∧ kdG0.1 (467 + i.toNat) = (13, 9) :=
  g_all 17 (fun n => kdG0.2.1 466 n = some (467 + n) ∧ kdG0.1 (467 + n) = (13, 9)) (by decide +kernel) h0 h1
theorem g_tg {i : Int} (h0 : 0 ≤ i) (h1 : i < 60) : kdG0.2.1 501 i.toNat = some (502 + i.toNat) ∧ kdG0.1 (502 + i.toNat) = (13, 60) :=
  g_all 60 (fun n => kdG0.2.1 501 n = some (502 + n) ∧ kdG0.1 (502 + n) = (13, 60)) (by decide +kernel) h0 h1
theorem g_gr {i : Int} (h0 : 0 ≤ i) (h1 : i < 5) : kdG0.2.1 568 i.toNat = some (569 + i.toNat) ∧ kdG0.1 (569 + i.toNat) = (14, 60) :=
  g_all 5 (fun n => kdG0.2.1 568 n = some (569 + n) ∧ kdG0.1 (569 + n) = (14, 60)) (by decide +kernel) h0 h1
theorem g_nx {i : Int} (h0 : 0 ≤ i) (h1 : i < 5) : kdG0.2.1 574 i.toNat = some (575 + i.toNat) ∧ kdG0.1 (575 + i.toNat) = (13, 60) :=
  g_all 5 (fun n => kdG0.2.1 574 n = some (575 + n) ∧ kdG0.1 (575 + n) = (13, 60)) (by decide +kernel) h0 h1
theorem g_pl {i : Int} (h0 : 0 ≤ i) (h1 : i < 7) : kdG0.2.1 592 i.toNat = some (593 + i.toNat) ∧ kdG0.1 (593 + i.toNat) = (13, 7) :=
  g_all 7 (fun n => kdG0.2.1 592 n = some (593 + n) ∧ kdG0.1 (593 + n) = (13, 7)) (by decide +kernel) h0 h1
theorem g_ok : kzG kdG0 := by
  intro a
  show (kdG0k.getD a (20, 0)).2 ≤ 2147483647
  have hall : ∀ q ∈ kdG0k, q.2 ≤ 2147483647 := by decide +kernel
  by_cases h : a < kdG0k.length
  · rw [List.getD_eq_getElem?_getD, List.getElem?_eq_getElem h]; exact hall _ (List.getElem_mem h)
  · rw [List.getD_eq_getElem?_getD, List.getElem?_eq_none (Nat.le_of_not_lt h)]; decide
/-! it returns, and what then holds -/
def Wz0 {α : Type} (f : kzM → Option (α × kzM)) (τ : kzM) (Q : α → kzM → Prop) : Prop := match f τ with
  | some r => Q r.1 r.2
  | none => False
theorem Wz_ex : ∃ W : (α : Type) → (kzM → Option (α × kzM)) → kzM → (α → kzM → Prop) → Prop, ∀ α f τ Q, W α f τ Q ↔ Wz0 f τ Q := ⟨fun _ f τ Q => Wz0 f τ Q, fun _ _ _ _ => Iff.rfl⟩
noncomputable def Wz {α : Type} (f : kzM → Option (α × kzM)) (τ : kzM) (Q : α → kzM → Prop) : Prop := Classical.choose Wz_ex α f τ Q
theorem Wz_def {α : Type} {f : kzM → Option (α × kzM)} {τ : kzM} {Q : α → kzM → Prop} : Wz f τ Q ↔ (match f τ with
  | some r => Q r.1 r.2
  | none => False) := Classical.choose_spec Wz_ex α f τ Q
section WZR
variable {α β : Type} {τ : kzM} {Q : α → kzM → Prop}
theorem Wz_mono {f : kzM → Option (α × kzM)} {Q' : α → kzM → Prop} (h : Wz f τ Q) (k : ∀ r τ', Q r τ' → Q' r τ') : Wz f τ Q' := by
  rw [Wz_def] at h ⊢
  split at h
  · exact k _ _ h
  · exact h.elim
theorem Wz_some {f : kzM → Option (α × kzM)} (h : Wz f τ Q) : ∃ r τ', f τ = some (r, τ') ∧ Q r τ' := by
  rw [Wz_def] at h
  split at h
  · rename_i r e; exact ⟨r.1, r.2, e, h⟩
  · exact h.elim
theorem Wz_rt {x : α} : Wz (zrt x) τ Q ↔ Q x τ := Wz_def
theorem Wz_cnd {c : Prop} [Decidable c] {f g : kzM → Option (α × kzM)} : Wz (zcnd c f g) τ Q ↔ (c → Wz f τ Q) ∧ (¬c → Wz g τ Q) := by
  simp only [Wz_def]
  unfold zcnd
  by_cases h : c <;> simp [h]
theorem Wz_lI {e : Int} {f : Int → kzM → Option (α × kzM)} : Wz (zlI e f) τ Q ↔ (-2147483648 ≤ e ∧ e ≤ 2147483647) ∧ Wz (f e) τ Q := by
  simp only [Wz_def]
  unfold zlI
  by_cases h : -2147483648 ≤ e ∧ e ≤ 2147483647 <;> simp [h]
theorem Wz_lW {e : Int} {f : Int → kzM → Option (α × kzM)} : Wz (zlW e f) τ Q ↔ Wz (f (Int32.ofInt e).toInt) τ Q := Iff.rfl
theorem Wz_lL {e : Int} {f : Int → kzM → Option (α × kzM)} : Wz (zlL e f) τ Q ↔ (-9223372036854775808 ≤ e ∧ e ≤ 9223372036854775807) ∧ Wz (f e) τ Q := by
  simp only [Wz_def]
  unfold zlL
  by_cases h : -9223372036854775808 ≤ e ∧ e ≤ 9223372036854775807 <;> simp [h]
theorem Wz_cl {γ : Type} {g : kzM → Option (γ × kzM)} {f : γ → kzM → Option (α × kzM)} : Wz (zcl g f) τ Q ↔ Wz g τ (fun r τ' => Wz (f r) τ' Q) := by
  simp only [Wz_def]
  unfold zcl
  cases g τ <;> simp
theorem Wz_cv {G : kdS} {ci b : Nat} {γ : Type} {g : kzM → Option (γ × kzM)} {f : γ → kzM → Option (α × kzM)} : Wz (zcv G ci b g f) τ Q ↔ (G.1 b).1 = ci ∧ Wz g τ (fun r τ' => Wz (f r) τ' Q) := by
  rw [← Wz_cl]
  simp only [Wz_def]
  unfold zcv
  by_cases h : (G.1 b).1 = ci <;> simp [h]
theorem Wz_nz {y : Int} {f : kzM → Option (α × kzM)} : Wz (znz y f) τ Q ↔ y ≠ 0 ∧ Wz f τ Q := by
  simp only [Wz_def]
  unfold znz
  by_cases h : y = 0 <;> simp [h]
theorem Wz_gI {G : kdS} {ci a : Nat} {k : Int} {f : Int → kzM → Option (α × kzM)} : Wz (zgI G ci k a f) τ Q ↔ (G.1 a).1 = ci ∧ Wz (f (τ.1 a k)) τ Q := by
  simp only [Wz_def]
  unfold zgI
  by_cases h : (G.1 a).1 = ci <;> simp [h]
theorem Wz_gR {G : kdS} {ci a k : Nat} {f : Nat → kzM → Option (α × kzM)} : Wz (zgR G ci k a f) τ Q ↔ (G.1 a).1 = ci ∧ ∃ b, G.2.1 a k = some b ∧ Wz (f b) τ Q := by
  simp only [Wz_def]
  unfold zgR
  by_cases h : (G.1 a).1 = ci
  · cases G.2.1 a k <;> simp [h]
  · simp [h]
theorem Wz_sI {G : kdS} {ci a : Nat} {k v : Int} {f : kzM → Option (α × kzM)} : Wz (zsI G ci k a v f) τ Q ↔ (G.1 a).1 = ci ∧ Wz f (v2 τ.1 a k v, τ.2) Q := by
  simp only [Wz_def]
  unfold zsI
  by_cases h : (G.1 a).1 = ci <;> simp [h]
theorem Wz_aI {G : kdS} {a : Nat} {i : Int} {f : Int → kzM → Option (α × kzM)} : Wz (zaI G a i f) τ Q ↔ ((G.1 a).1 = 13 ∧ 0 ≤ i ∧ i < ((G.1 a).2 : Int)) ∧ Wz (f (τ.1 a i)) τ Q := by
  simp only [Wz_def]
  unfold zaI
  by_cases h : (G.1 a).1 = 13 ∧ 0 ≤ i ∧ i < ((G.1 a).2 : Int) <;> simp [h]
theorem Wz_aZ {G : kdS} {a : Nat} {i : Int} {f : Int → kzM → Option (α × kzM)} : Wz (zaZ G a i f) τ Q ↔ ((G.1 a).1 = 15 ∧ 0 ≤ i ∧ i < ((G.1 a).2 : Int)) ∧ Wz (f (τ.1 a i)) τ Q := by
  simp only [Wz_def]
  unfold zaZ
  by_cases h : (G.1 a).1 = 15 ∧ 0 ≤ i ∧ i < ((G.1 a).2 : Int) <;> simp [h]
theorem Wz_aL {G : kdS} {a : Nat} {i : Int} {f : Int → kzM → Option (α × kzM)} : Wz (zaL G a i f) τ Q ↔ ((G.1 a).1 = 14 ∧ 0 ≤ i ∧ i < ((G.1 a).2 : Int)) ∧ Wz (f (τ.2 a i)) τ Q := by
  simp only [Wz_def]
  unfold zaL
  by_cases h : (G.1 a).1 = 14 ∧ 0 ≤ i ∧ i < ((G.1 a).2 : Int) <;> simp [h]
theorem Wz_aN {G : kdS} {a : Nat} {f : Int → kzM → Option (α × kzM)} : Wz (zaN G a f) τ Q ↔ (G.1 a).1 = 13 ∧ Wz (f ((G.1 a).2 : Int)) τ Q := by
  simp only [Wz_def]
  unfold zaN
  by_cases h : (G.1 a).1 = 13 <;> simp [h]
theorem Wz_aR {G : kdS} {t a : Nat} {i : Int} {f : Nat → kzM → Option (α × kzM)} : Wz (zaR G t a i f) τ Q ↔ ((G.1 a).1 = t ∧ 0 ≤ i ∧ i < ((G.1 a).2 : Int)) ∧ ∃ b, G.2.1 a i.toNat = some b ∧ Wz (f b) τ Q := by
  simp only [Wz_def]
  unfold zaR
  by_cases h : (G.1 a).1 = t ∧ 0 ≤ i ∧ i < ((G.1 a).2 : Int)
  · cases G.2.1 a i.toNat <;> simp [h]
  · simp [h]
theorem Wz_tI {G : kdS} {a : Nat} {i v : Int} {f : kzM → Option (α × kzM)} : Wz (ztI G a i v f) τ Q ↔ ((G.1 a).1 = 13 ∧ 0 ≤ i ∧ i < ((G.1 a).2 : Int)) ∧ Wz f (v2 τ.1 a i v, τ.2) Q := by
  simp only [Wz_def]
  unfold ztI
  by_cases h : (G.1 a).1 = 13 ∧ 0 ≤ i ∧ i < ((G.1 a).2 : Int) <;> simp [h]
theorem Wz_tZ {G : kdS} {a : Nat} {i v : Int} {f : kzM → Option (α × kzM)} : Wz (ztZ G a i v f) τ Q ↔ ((G.1 a).1 = 15 ∧ 0 ≤ i ∧ i < ((G.1 a).2 : Int)) ∧ Wz f (v2 τ.1 a i (zB v), τ.2) Q := by
  simp only [Wz_def]
  unfold ztZ
  by_cases h : (G.1 a).1 = 15 ∧ 0 ≤ i ∧ i < ((G.1 a).2 : Int) <;> simp [h]
theorem Wz_tL {G : kdS} {a : Nat} {i v : Int} {f : kzM → Option (α × kzM)} : Wz (ztL G a i v f) τ Q ↔ ((G.1 a).1 = 14 ∧ 0 ≤ i ∧ i < ((G.1 a).2 : Int)) ∧ Wz f (τ.1, v2 τ.2 a i v) Q := by
  simp only [Wz_def]
  unfold ztL
  by_cases h : (G.1 a).1 = 14 ∧ 0 ≤ i ∧ i < ((G.1 a).2 : Int) <;> simp [h]
theorem Wz_sc {xs : Nat → Int32} {N : Nat} {i : Int} {f : Int → kzM → Option (α × kzM)} : Wz (zsc xs N i f) τ Q ↔ (0 ≤ i ∧ i < (N : Int)) ∧ Wz (f (xs i.toNat).toInt) τ Q := by
  simp only [Wz_def]
  unfold zsc
  by_cases h : 0 ≤ i ∧ i < (N : Int) <;> simp [h]
end WZR
theorem v2_eq {α : Type} (f : Nat → Int → α) (a : Nat) (k : Int) (v : α) (b : Nat) (j : Int) : v2 f a k v b j = if b = a ∧ j = k then v else f b j := rfl
theorem v2_self {α : Type} (f : Nat → Int → α) (a : Nat) (k : Int) (v : α) : v2 f a k v a k = v := if_pos ⟨rfl, rfl⟩
theorem v2_ne {α : Type} (f : Nat → Int → α) {a : Nat} (k : Int) (v : α) {b : Nat} (j : Int) (h : b ≠ a) : v2 f a k v b j = f b j := if_neg (fun q => h q.1)
theorem v2_nk {α : Type} (f : Nat → Int → α) (a : Nat) {k : Int} (v : α) (b : Nat) {j : Int} (h : j ≠ k) : v2 f a k v b j = f b j := if_neg (fun q => h q.2)
theorem v2_row {α : Type} (f : Nat → Int → α) {a : Nat} (k : Int) (v : α) {b : Nat} (h : b ≠ a) : v2 f a k v b = f b := funext fun j => v2_ne f k v j h
