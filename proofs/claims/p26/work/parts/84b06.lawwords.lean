theorem dL_law_577 : decode cL_law 577 = .ok (.bipush 9, 2) := by decide +kernel
theorem dL_law_579 : decode cL_law 579 = .ok (.invokestatic 96, 3) := by decide +kernel
theorem dL_law_582 : decode cL_law 582 = .ok (.iconst 4, 1) := by decide +kernel
theorem dL_law_583 : decode cL_law 583 = .ok (.isub, 1) := by decide +kernel
theorem dL_law_584 : decode cL_law 584 = .ok (.istore 8, 2) := by decide +kernel
theorem dL_law_586 : decode cL_law 586 = .ok (.iload 4, 2) := by decide +kernel
theorem dL_law_588 : decode cL_law 588 = .ok (.iconst 4, 1) := by decide +kernel
theorem dL_law_589 : decode cL_law 589 = .ok (.ishr, 1) := by decide +kernel
theorem dL_law_590 : decode cL_law 590 = .ok (.bipush 9, 2) := by decide +kernel
theorem dL_law_592 : decode cL_law 592 = .ok (.invokestatic 96, 3) := by decide +kernel
theorem dL_law_595 : decode cL_law 595 = .ok (.iconst 4, 1) := by decide +kernel
theorem dL_law_596 : decode cL_law 596 = .ok (.isub, 1) := by decide +kernel
theorem dL_law_597 : decode cL_law 597 = .ok (.istore 9, 2) := by decide +kernel
theorem dL_law_599 : decode cL_law 599 = .ok (.aload_n 1, 1) := by decide +kernel
theorem dL_law_600 : decode cL_law 600 = .ok (.iload 7, 2) := by decide +kernel
theorem dL_law_602 : decode cL_law 602 = .ok (.iconst 0, 1) := by decide +kernel
theorem dL_law_603 : decode cL_law 603 = .ok (.invokevirtual 15, 3) := by decide +kernel
theorem dL_law_606 : decode cL_law 606 = .ok (.istore 10, 2) := by decide +kernel
theorem dL_law_608 : decode cL_law 608 = .ok (.aload_n 1, 1) := by decide +kernel
theorem dL_law_609 : decode cL_law 609 = .ok (.iload 7, 2) := by decide +kernel
theorem dL_law_611 : decode cL_law 611 = .ok (.iconst 1, 1) := by decide +kernel
theorem dL_law_612 : decode cL_law 612 = .ok (.invokevirtual 15, 3) := by decide +kernel
theorem dL_law_615 : decode cL_law 615 = .ok (.istore 11, 2) := by decide +kernel
theorem dL_law_617 : decode cL_law 617 = .ok (.iload 10, 2) := by decide +kernel
theorem dL_law_619 : decode cL_law 619 = .ok (.iload 8, 2) := by decide +kernel
theorem dL_law_621 : decode cL_law 621 = .ok (.iadd, 1) := by decide +kernel
theorem dL_law_622 : decode cL_law 622 = .ok (.bipush (-20), 2) := by decide +kernel
theorem dL_law_624 : decode cL_law 624 = .ok (.if_icmp .lt 37, 3) := by decide +kernel
theorem dL_law_627 : decode cL_law 627 = .ok (.iload 10, 2) := by decide +kernel
theorem dL_law_629 : decode cL_law 629 = .ok (.iload 8, 2) := by decide +kernel
theorem dL_law_631 : decode cL_law 631 = .ok (.iadd, 1) := by decide +kernel
theorem dL_law_632 : decode cL_law 632 = .ok (.bipush 40, 2) := by decide +kernel
theorem dL_law_634 : decode cL_law 634 = .ok (.if_icmp .gt 27, 3) := by decide +kernel
theorem dL_law_637 : decode cL_law 637 = .ok (.iload 11, 2) := by decide +kernel
theorem dL_law_639 : decode cL_law 639 = .ok (.iload 9, 2) := by decide +kernel
theorem dL_law_641 : decode cL_law 641 = .ok (.iadd, 1) := by decide +kernel
theorem dL_law_642 : decode cL_law 642 = .ok (.bipush (-20), 2) := by decide +kernel
theorem dL_law_644 : decode cL_law 644 = .ok (.if_icmp .lt 17, 3) := by decide +kernel
theorem dL_law_647 : decode cL_law 647 = .ok (.iload 11, 2) := by decide +kernel
theorem dL_law_649 : decode cL_law 649 = .ok (.iload 9, 2) := by decide +kernel
theorem dL_law_651 : decode cL_law 651 = .ok (.iadd, 1) := by decide +kernel
theorem dL_law_652 : decode cL_law 652 = .ok (.bipush 40, 2) := by decide +kernel
theorem dL_law_654 : decode cL_law 654 = .ok (.if_icmp .gt 7, 3) := by decide +kernel
theorem dL_law_657 : decode cL_law 657 = .ok (.iconst 1, 1) := by decide +kernel
theorem dL_law_658 : decode cL_law 658 = .ok (.goto 4, 3) := by decide +kernel
theorem dL_law_661 : decode cL_law 661 = .ok (.iconst 0, 1) := by decide +kernel
theorem dL_law_662 : decode cL_law 662 = .ok (.istore 12, 2) := by decide +kernel
theorem dL_law_664 : decode cL_law 664 = .ok (.aload_n 1, 1) := by decide +kernel
theorem dL_law_665 : decode cL_law 665 = .ok (.iload 7, 2) := by decide +kernel
theorem dL_law_667 : decode cL_law 667 = .ok (.iload 8, 2) := by decide +kernel
theorem dL_law_669 : decode cL_law 669 = .ok (.iload 9, 2) := by decide +kernel
theorem dL_law_671 : decode cL_law 671 = .ok (.invokevirtual 46, 3) := by decide +kernel
theorem dL_law_674 : decode cL_law 674 = .ok (.istore 13, 2) := by decide +kernel
theorem dL_law_676 : decode cL_law 676 = .ok (.iload 13, 2) := by decide +kernel
theorem dL_law_678 : decode cL_law 678 = .ok (.iload 12, 2) := by decide +kernel
theorem dL_law_680 : decode cL_law 680 = .ok (.ifCond .eq 33, 3) := by decide +kernel
theorem dL_law_683 : decode cL_law 683 = .ok (.iload 8, 2) := by decide +kernel
theorem dL_law_685 : decode cL_law 685 = .ok (.ifCond .ge 9, 3) := by decide +kernel
theorem dL_law_688 : decode cL_law 688 = .ok (.iload 8, 2) := by decide +kernel
theorem dL_law_690 : decode cL_law 690 = .ok (.ineg, 1) := by decide +kernel
