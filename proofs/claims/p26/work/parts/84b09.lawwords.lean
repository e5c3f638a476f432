theorem dL_law_930 : decode cL_law 930 = .ok (.iinc 2 1, 3) := by decide +kernel
theorem dL_law_933 : decode cL_law 933 = .ok (.goto (-870), 3) := by decide +kernel
theorem dL_law_936 : decode cL_law 936 = .ok (.aload_n 1, 1) := by decide +kernel
theorem dL_law_937 : decode cL_law 937 = .ok (.invokestatic 83, 3) := by decide +kernel
theorem dL_law_940 : decode cL_law 940 = .ok (.ireturn, 1) := by decide +kernel
