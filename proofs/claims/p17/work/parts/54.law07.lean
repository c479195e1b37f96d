theorem dL_law_1589_g : (decode cL_law 1589 = .ok (.pop, 1)) ∧ (decode cL_law 1590 = .ok (.goto 3, 3)) ∧ (decode cL_law 1593 = .ok (.iinc 4 6, 3)) ∧ (decode cL_law 1596 = .ok (.goto (-1573), 3)) ∧ (decode cL_law 1599 = .ok (.iconst 1, 1)) ∧ (decode cL_law 1600 = .ok (.ireturn, 1)) := by decide +kernel
theorem dL_law_1589 : decode cL_law 1589 = .ok (.pop, 1) := dL_law_1589_g.1
theorem dL_law_1590 : decode cL_law 1590 = .ok (.goto 3, 3) := dL_law_1589_g.2.1
theorem dL_law_1593 : decode cL_law 1593 = .ok (.iinc 4 6, 3) := dL_law_1589_g.2.2.1
theorem dL_law_1596 : decode cL_law 1596 = .ok (.goto (-1573), 3) := dL_law_1589_g.2.2.2.1
theorem dL_law_1599 : decode cL_law 1599 = .ok (.iconst 1, 1) := dL_law_1589_g.2.2.2.2.1
theorem dL_law_1600 : decode cL_law 1600 = .ok (.ireturn, 1) := dL_law_1589_g.2.2.2.2.2

