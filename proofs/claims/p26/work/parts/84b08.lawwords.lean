theorem dL_law_816 : decode cL_law 816 = .ok (.aload_n 1, 1) := by decide +kernel
theorem dL_law_817 : decode cL_law 817 = .ok (.iload 10, 2) := by decide +kernel
theorem dL_law_819 : decode cL_law 819 = .ok (.bipush 6, 2) := by decide +kernel
theorem dL_law_821 : decode cL_law 821 = .ok (.invokevirtual 15, 3) := by decide +kernel
theorem dL_law_824 : decode cL_law 824 = .ok (.iload 9, 2) := by decide +kernel
theorem dL_law_826 : decode cL_law 826 = .ok (.iload 8, 2) := by decide +kernel
theorem dL_law_828 : decode cL_law 828 = .ok (.if_icmp .le 10, 3) := by decide +kernel
theorem dL_law_831 : decode cL_law 831 = .ok (.iload 9, 2) := by decide +kernel
theorem dL_law_833 : decode cL_law 833 = .ok (.iconst 1, 1) := by decide +kernel
theorem dL_law_834 : decode cL_law 834 = .ok (.isub, 1) := by decide +kernel
theorem dL_law_835 : decode cL_law 835 = .ok (.goto 7, 3) := by decide +kernel
theorem dL_law_838 : decode cL_law 838 = .ok (.iload 9, 2) := by decide +kernel
theorem dL_law_840 : decode cL_law 840 = .ok (.iconst 1, 1) := by decide +kernel
theorem dL_law_841 : decode cL_law 841 = .ok (.iadd, 1) := by decide +kernel
theorem dL_law_842 : decode cL_law 842 = .ok (.if_icmp .eq 5, 3) := by decide +kernel
theorem dL_law_845 : decode cL_law 845 = .ok (.iconst 0, 1) := by decide +kernel
theorem dL_law_846 : decode cL_law 846 = .ok (.ireturn, 1) := by decide +kernel
theorem dL_law_847 : decode cL_law 847 = .ok (.aload_n 1, 1) := by decide +kernel
theorem dL_law_848 : decode cL_law 848 = .ok (.invokestatic 59, 3) := by decide +kernel
theorem dL_law_851 : decode cL_law 851 = .ok (.ifCond .eq 77, 3) := by decide +kernel
theorem dL_law_854 : decode cL_law 854 = .ok (.iload_n 2, 1) := by decide +kernel
theorem dL_law_855 : decode cL_law 855 = .ok (.iconst 4, 1) := by decide +kernel
theorem dL_law_856 : decode cL_law 856 = .ok (.irem, 1) := by decide +kernel
theorem dL_law_857 : decode cL_law 857 = .ok (.iconst 3, 1) := by decide +kernel
theorem dL_law_858 : decode cL_law 858 = .ok (.if_icmp .ne 17, 3) := by decide +kernel
theorem dL_law_861 : decode cL_law 861 = .ok (.aload_n 1, 1) := by decide +kernel
theorem dL_law_862 : decode cL_law 862 = .ok (.invokestatic 86, 3) := by decide +kernel
theorem dL_law_865 : decode cL_law 865 = .ok (.ifCond .eq 63, 3) := by decide +kernel
theorem dL_law_868 : decode cL_law 868 = .ok (.aload_n 1, 1) := by decide +kernel
theorem dL_law_869 : decode cL_law 869 = .ok (.invokestatic 99, 3) := by decide +kernel
theorem dL_law_872 : decode cL_law 872 = .ok (.ifCond .eq 56, 3) := by decide +kernel
theorem dL_law_875 : decode cL_law 875 = .ok (.iload_n 2, 1) := by decide +kernel
theorem dL_law_876 : decode cL_law 876 = .ok (.bipush 7, 2) := by decide +kernel
theorem dL_law_878 : decode cL_law 878 = .ok (.irem, 1) := by decide +kernel
theorem dL_law_879 : decode cL_law 879 = .ok (.bipush 6, 2) := by decide +kernel
theorem dL_law_881 : decode cL_law 881 = .ok (.if_icmp .ne 31, 3) := by decide +kernel
theorem dL_law_884 : decode cL_law 884 = .ok (.aload_n 1, 1) := by decide +kernel
theorem dL_law_885 : decode cL_law 885 = .ok (.iconst 0, 1) := by decide +kernel
theorem dL_law_886 : decode cL_law 886 = .ok (.invokevirtual 9, 3) := by decide +kernel
theorem dL_law_889 : decode cL_law 889 = .ok (.ifCond .le 23, 3) := by decide +kernel
theorem dL_law_892 : decode cL_law 892 = .ok (.aload_n 1, 1) := by decide +kernel
theorem dL_law_893 : decode cL_law 893 = .ok (.iload 4, 2) := by decide +kernel
theorem dL_law_895 : decode cL_law 895 = .ok (.bipush 9, 2) := by decide +kernel
theorem dL_law_897 : decode cL_law 897 = .ok (.ishr, 1) := by decide +kernel
theorem dL_law_898 : decode cL_law 898 = .ok (.aload_n 1, 1) := by decide +kernel
theorem dL_law_899 : decode cL_law 899 = .ok (.iconst 0, 1) := by decide +kernel
theorem dL_law_900 : decode cL_law 900 = .ok (.invokevirtual 9, 3) := by decide +kernel
theorem dL_law_903 : decode cL_law 903 = .ok (.invokestatic 96, 3) := by decide +kernel
theorem dL_law_906 : decode cL_law 906 = .ok (.invokestatic 102, 3) := by decide +kernel
theorem dL_law_909 : decode cL_law 909 = .ok (.ifCond .eq 19, 3) := by decide +kernel
theorem dL_law_912 : decode cL_law 912 = .ok (.iload_n 2, 1) := by decide +kernel
theorem dL_law_913 : decode cL_law 913 = .ok (.bipush 15, 2) := by decide +kernel
theorem dL_law_915 : decode cL_law 915 = .ok (.irem, 1) := by decide +kernel
theorem dL_law_916 : decode cL_law 916 = .ok (.bipush 14, 2) := by decide +kernel
theorem dL_law_918 : decode cL_law 918 = .ok (.if_icmp .ne 12, 3) := by decide +kernel
theorem dL_law_921 : decode cL_law 921 = .ok (.aload_n 1, 1) := by decide +kernel
theorem dL_law_922 : decode cL_law 922 = .ok (.invokestatic 106, 3) := by decide +kernel
theorem dL_law_925 : decode cL_law 925 = .ok (.ifCond .ne 5, 3) := by decide +kernel
theorem dL_law_928 : decode cL_law 928 = .ok (.iconst 0, 1) := by decide +kernel
theorem dL_law_929 : decode cL_law 929 = .ok (.ireturn, 1) := by decide +kernel
