theorem dL_law_1587_g : (decode cL_law 1587 = .ok (.invokevirtual 162, 3)) ∧ (decode cL_law 1590 = .ok (.pop, 1)) ∧ (decode cL_law 1591 = .ok (.goto 3, 3)) ∧ (decode cL_law 1594 = .ok (.iinc 4 6, 3)) ∧ (decode cL_law 1597 = .ok (.goto (-1574), 3)) ∧ (decode cL_law 1600 = .ok (.iconst 1, 1)) ∧ (decode cL_law 1601 = .ok (.ireturn, 1)) := by decide +kernel
theorem dL_law_1587 : decode cL_law 1587 = .ok (.invokevirtual 162, 3) := dL_law_1587_g.1
theorem dL_law_1590 : decode cL_law 1590 = .ok (.pop, 1) := dL_law_1587_g.2.1
theorem dL_law_1591 : decode cL_law 1591 = .ok (.goto 3, 3) := dL_law_1587_g.2.2.1
theorem dL_law_1594 : decode cL_law 1594 = .ok (.iinc 4 6, 3) := dL_law_1587_g.2.2.2.1
theorem dL_law_1597 : decode cL_law 1597 = .ok (.goto (-1574), 3) := dL_law_1587_g.2.2.2.2.1
theorem dL_law_1600 : decode cL_law 1600 = .ok (.iconst 1, 1) := dL_law_1587_g.2.2.2.2.2.1
theorem dL_law_1601 : decode cL_law 1601 = .ok (.ireturn, 1) := dL_law_1587_g.2.2.2.2.2.2

