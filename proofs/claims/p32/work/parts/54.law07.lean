theorem dL_law_1585 : decode cL_law 1585 = .ok (.invokevirtual 162, 3) := by decide +kernel
theorem dL_law_1588 : decode cL_law 1588 = .ok (.if_icmp .eq 5, 3) := by decide +kernel
theorem dL_law_1593 : decode cL_law 1593 = .ok (.iinc 4 6, 3) := by decide +kernel
theorem dL_law_1596 : decode cL_law 1596 = .ok (.goto (-1573), 3) := by decide +kernel
theorem dL_law_1599 : decode cL_law 1599 = .ok (.iconst 1, 1) := by decide +kernel
theorem dL_law_1600 : decode cL_law 1600 = .ok (.ireturn, 1) := by decide +kernel

