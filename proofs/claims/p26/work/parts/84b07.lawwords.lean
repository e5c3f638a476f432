theorem dL_law_691 : decode cL_law 691 = .ok (.goto 5, 3) := by decide +kernel
theorem dL_law_694 : decode cL_law 694 = .ok (.iload 8, 2) := by decide +kernel
theorem dL_law_696 : decode cL_law 696 = .ok (.iload 9, 2) := by decide +kernel
theorem dL_law_698 : decode cL_law 698 = .ok (.ifCond .ge 9, 3) := by decide +kernel
theorem dL_law_701 : decode cL_law 701 = .ok (.iload 9, 2) := by decide +kernel
theorem dL_law_703 : decode cL_law 703 = .ok (.ineg, 1) := by decide +kernel
theorem dL_law_704 : decode cL_law 704 = .ok (.goto 5, 3) := by decide +kernel
theorem dL_law_707 : decode cL_law 707 = .ok (.iload 9, 2) := by decide +kernel
theorem dL_law_709 : decode cL_law 709 = .ok (.iadd, 1) := by decide +kernel
theorem dL_law_710 : decode cL_law 710 = .ok (.goto 5, 3) := by decide +kernel
theorem dL_law_713 : decode cL_law 713 = .ok (.bipush (-102), 2) := by decide +kernel
theorem dL_law_715 : decode cL_law 715 = .ok (.if_icmp .ne 38, 3) := by decide +kernel
theorem dL_law_718 : decode cL_law 718 = .ok (.iload 12, 2) := by decide +kernel
theorem dL_law_720 : decode cL_law 720 = .ok (.ifCond .eq 35, 3) := by decide +kernel
theorem dL_law_723 : decode cL_law 723 = .ok (.aload_n 1, 1) := by decide +kernel
theorem dL_law_724 : decode cL_law 724 = .ok (.iload 7, 2) := by decide +kernel
theorem dL_law_726 : decode cL_law 726 = .ok (.iconst 0, 1) := by decide +kernel
theorem dL_law_727 : decode cL_law 727 = .ok (.invokevirtual 15, 3) := by decide +kernel
theorem dL_law_730 : decode cL_law 730 = .ok (.iload 10, 2) := by decide +kernel
theorem dL_law_732 : decode cL_law 732 = .ok (.iload 8, 2) := by decide +kernel
theorem dL_law_734 : decode cL_law 734 = .ok (.iadd, 1) := by decide +kernel
theorem dL_law_735 : decode cL_law 735 = .ok (.if_icmp .ne 18, 3) := by decide +kernel
theorem dL_law_738 : decode cL_law 738 = .ok (.aload_n 1, 1) := by decide +kernel
theorem dL_law_739 : decode cL_law 739 = .ok (.iload 7, 2) := by decide +kernel
theorem dL_law_741 : decode cL_law 741 = .ok (.iconst 1, 1) := by decide +kernel
theorem dL_law_742 : decode cL_law 742 = .ok (.invokevirtual 15, 3) := by decide +kernel
theorem dL_law_745 : decode cL_law 745 = .ok (.iload 11, 2) := by decide +kernel
theorem dL_law_747 : decode cL_law 747 = .ok (.iload 9, 2) := by decide +kernel
theorem dL_law_749 : decode cL_law 749 = .ok (.iadd, 1) := by decide +kernel
theorem dL_law_750 : decode cL_law 750 = .ok (.if_icmp .eq 5, 3) := by decide +kernel
theorem dL_law_753 : decode cL_law 753 = .ok (.iconst 0, 1) := by decide +kernel
theorem dL_law_754 : decode cL_law 754 = .ok (.ireturn, 1) := by decide +kernel
theorem dL_law_755 : decode cL_law 755 = .ok (.goto 92, 3) := by decide +kernel
theorem dL_law_758 : decode cL_law 758 = .ok (.aload_n 1, 1) := by decide +kernel
theorem dL_law_759 : decode cL_law 759 = .ok (.iload 7, 2) := by decide +kernel
theorem dL_law_761 : decode cL_law 761 = .ok (.bipush 6, 2) := by decide +kernel
theorem dL_law_763 : decode cL_law 763 = .ok (.invokevirtual 15, 3) := by decide +kernel
theorem dL_law_766 : decode cL_law 766 = .ok (.istore 8, 2) := by decide +kernel
theorem dL_law_768 : decode cL_law 768 = .ok (.iload 4, 2) := by decide +kernel
theorem dL_law_770 : decode cL_law 770 = .ok (.iload 5, 2) := by decide +kernel
theorem dL_law_772 : decode cL_law 772 = .ok (.invokestatic 96, 3) := by decide +kernel
theorem dL_law_775 : decode cL_law 775 = .ok (.istore 9, 2) := by decide +kernel
theorem dL_law_777 : decode cL_law 777 = .ok (.aload_n 1, 1) := by decide +kernel
theorem dL_law_778 : decode cL_law 778 = .ok (.iload 9, 2) := by decide +kernel
theorem dL_law_780 : decode cL_law 780 = .ok (.invokevirtual 25, 3) := by decide +kernel
theorem dL_law_783 : decode cL_law 783 = .ok (.istore 10, 2) := by decide +kernel
theorem dL_law_785 : decode cL_law 785 = .ok (.aload_n 1, 1) := by decide +kernel
theorem dL_law_786 : decode cL_law 786 = .ok (.iload 7, 2) := by decide +kernel
theorem dL_law_788 : decode cL_law 788 = .ok (.iload 9, 2) := by decide +kernel
theorem dL_law_790 : decode cL_law 790 = .ok (.invokevirtual 53, 3) := by decide +kernel
theorem dL_law_793 : decode cL_law 793 = .ok (.iload 8, 2) := by decide +kernel
theorem dL_law_795 : decode cL_law 795 = .ok (.if_icmp .ne 50, 3) := by decide +kernel
theorem dL_law_798 : decode cL_law 798 = .ok (.aload_n 1, 1) := by decide +kernel
theorem dL_law_799 : decode cL_law 799 = .ok (.iload 9, 2) := by decide +kernel
theorem dL_law_801 : decode cL_law 801 = .ok (.invokevirtual 25, 3) := by decide +kernel
theorem dL_law_804 : decode cL_law 804 = .ok (.iload 7, 2) := by decide +kernel
theorem dL_law_806 : decode cL_law 806 = .ok (.if_icmp .ne 39, 3) := by decide +kernel
theorem dL_law_809 : decode cL_law 809 = .ok (.iload 10, 2) := by decide +kernel
theorem dL_law_811 : decode cL_law 811 = .ok (.iload 7, 2) := by decide +kernel
theorem dL_law_813 : decode cL_law 813 = .ok (.if_icmp .eq 34, 3) := by decide +kernel
