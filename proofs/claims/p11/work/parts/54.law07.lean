theorem dL_law_1594_g : (decode cL_law 1594 = .ok (.aload_n 0, 1)) ∧ (decode cL_law 1595 = .ok (.iload 4, 2)) ∧ (decode cL_law 1597 = .ok (.iconst 2, 1)) ∧ (decode cL_law 1598 = .ok (.iadd, 1)) ∧ (decode cL_law 1599 = .ok (.iaload, 1)) ∧ (decode cL_law 1600 = .ok (.aload_n 0, 1)) ∧ (decode cL_law 1601 = .ok (.iload 4, 2)) ∧ (decode cL_law 1603 = .ok (.iconst 3, 1)) := by decide +kernel
theorem dL_law_1594 : decode cL_law 1594 = .ok (.aload_n 0, 1) := dL_law_1594_g.1
theorem dL_law_1595 : decode cL_law 1595 = .ok (.iload 4, 2) := dL_law_1594_g.2.1
theorem dL_law_1597 : decode cL_law 1597 = .ok (.iconst 2, 1) := dL_law_1594_g.2.2.1
theorem dL_law_1598 : decode cL_law 1598 = .ok (.iadd, 1) := dL_law_1594_g.2.2.2.1
theorem dL_law_1599 : decode cL_law 1599 = .ok (.iaload, 1) := dL_law_1594_g.2.2.2.2.1
theorem dL_law_1600 : decode cL_law 1600 = .ok (.aload_n 0, 1) := dL_law_1594_g.2.2.2.2.2.1
theorem dL_law_1601 : decode cL_law 1601 = .ok (.iload 4, 2) := dL_law_1594_g.2.2.2.2.2.2.1
theorem dL_law_1603 : decode cL_law 1603 = .ok (.iconst 3, 1) := dL_law_1594_g.2.2.2.2.2.2.2
theorem dL_law_1604_g : (decode cL_law 1604 = .ok (.iadd, 1)) ∧ (decode cL_law 1605 = .ok (.iaload, 1)) ∧ (decode cL_law 1606 = .ok (.ifCond .eq 7, 3)) ∧ (decode cL_law 1609 = .ok (.iconst 1, 1)) ∧ (decode cL_law 1610 = .ok (.goto 4, 3)) ∧ (decode cL_law 1613 = .ok (.iconst 0, 1)) ∧ (decode cL_law 1614 = .ok (.invokevirtual 165, 3)) ∧ (decode cL_law 1617 = .ok (.pop, 1)) := by decide +kernel
theorem dL_law_1604 : decode cL_law 1604 = .ok (.iadd, 1) := dL_law_1604_g.1
theorem dL_law_1605 : decode cL_law 1605 = .ok (.iaload, 1) := dL_law_1604_g.2.1
theorem dL_law_1606 : decode cL_law 1606 = .ok (.ifCond .eq 7, 3) := dL_law_1604_g.2.2.1
theorem dL_law_1609 : decode cL_law 1609 = .ok (.iconst 1, 1) := dL_law_1604_g.2.2.2.1
theorem dL_law_1610 : decode cL_law 1610 = .ok (.goto 4, 3) := dL_law_1604_g.2.2.2.2.1
theorem dL_law_1613 : decode cL_law 1613 = .ok (.iconst 0, 1) := dL_law_1604_g.2.2.2.2.2.1
theorem dL_law_1614 : decode cL_law 1614 = .ok (.invokevirtual 165, 3) := dL_law_1604_g.2.2.2.2.2.2.1
theorem dL_law_1617 : decode cL_law 1617 = .ok (.pop, 1) := dL_law_1604_g.2.2.2.2.2.2.2
theorem dL_law_1618_g : (decode cL_law 1618 = .ok (.goto 3, 3)) ∧ (decode cL_law 1621 = .ok (.iinc 4 6, 3)) ∧ (decode cL_law 1624 = .ok (.goto (-1601), 3)) ∧ (decode cL_law 1627 = .ok (.iconst 1, 1)) ∧ (decode cL_law 1628 = .ok (.ireturn, 1)) := by decide +kernel
theorem dL_law_1618 : decode cL_law 1618 = .ok (.goto 3, 3) := dL_law_1618_g.1
theorem dL_law_1621 : decode cL_law 1621 = .ok (.iinc 4 6, 3) := dL_law_1618_g.2.1
theorem dL_law_1624 : decode cL_law 1624 = .ok (.goto (-1601), 3) := dL_law_1618_g.2.2.1
theorem dL_law_1627 : decode cL_law 1627 = .ok (.iconst 1, 1) := dL_law_1618_g.2.2.2.1
theorem dL_law_1628 : decode cL_law 1628 = .ok (.ireturn, 1) := dL_law_1618_g.2.2.2.2

