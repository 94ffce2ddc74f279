theorem dL_law_1706 : decode cL_law 1706 = .ok (.ifCond .ne 7, 3) := by decide +kernel
theorem dL_law_1709 : decode cL_law 1709 = .ok (.dconst 0, 1) := by decide +kernel
theorem dL_law_1710 : decode cL_law 1710 = .ok (.goto 12, 3) := by decide +kernel
theorem dL_law_1713 : decode cL_law 1713 = .ok (.iload 21, 2) := by decide +kernel
theorem dL_law_1715 : decode cL_law 1715 = .ok (.i2d, 1) := by decide +kernel
theorem dL_law_1716 : decode cL_law 1716 = .ok (.aload 18, 2) := by decide +kernel
theorem dL_law_1718 : decode cL_law 1718 = .ok (.iconst 0, 1) := by decide +kernel
theorem dL_law_1719 : decode cL_law 1719 = .ok (.iaload, 1) := by decide +kernel
theorem dL_law_1720 : decode cL_law 1720 = .ok (.i2d, 1) := by decide +kernel
theorem dL_law_1721 : decode cL_law 1721 = .ok (.ddiv, 1) := by decide +kernel
theorem dL_law_1722 : decode cL_law 1722 = .ok (.dcmp .l, 1) := by decide +kernel
theorem dL_law_1723 : decode cL_law 1723 = .ok (.ifCond .ne 10, 3) := by decide +kernel
theorem dL_law_1726 : decode cL_law 1726 = .ok (.iload 17, 2) := by decide +kernel
theorem dL_law_1728 : decode cL_law 1728 = .ok (.bipush 60, 2) := by decide +kernel
theorem dL_law_1730 : decode cL_law 1730 = .ok (.if_icmp .le 5, 3) := by decide +kernel
theorem dL_law_1733 : decode cL_law 1733 = .ok (.iconst 0, 1) := by decide +kernel
theorem dL_law_1734 : decode cL_law 1734 = .ok (.ireturn, 1) := by decide +kernel
theorem dL_law_1735 : decode cL_law 1735 = .ok (.iinc 2 1, 3) := by decide +kernel
theorem dL_law_1738 : decode cL_law 1738 = .ok (.goto (-1731), 3) := by decide +kernel
theorem dL_law_1741 : decode cL_law 1741 = .ok (.iconst 1, 1) := by decide +kernel
theorem dL_law_1742 : decode cL_law 1742 = .ok (.ireturn, 1) := by decide +kernel
