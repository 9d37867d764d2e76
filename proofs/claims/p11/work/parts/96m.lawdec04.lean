theorem dLW_law_596 : decode cLW_law 596 = .ok (.iload_n 3, 1) := by decide +kernel
theorem dLW_law_597 : decode cLW_law 597 = .ok (.iconst 3, 1) := by decide +kernel
theorem dLW_law_598 : decode cLW_law 598 = .ok (.iadd, 1) := by decide +kernel
theorem dLW_law_599 : decode cLW_law 599 = .ok (.iaload, 1) := by decide +kernel
theorem dLW_law_600 : decode cLW_law 600 = .ok (.ifCond .eq 7, 3) := by decide +kernel
theorem dLW_law_603 : decode cLW_law 603 = .ok (.iconst 1, 1) := by decide +kernel
theorem dLW_law_604 : decode cLW_law 604 = .ok (.goto 4, 3) := by decide +kernel
theorem dLW_law_607 : decode cLW_law 607 = .ok (.iconst 0, 1) := by decide +kernel
theorem dLW_law_608 : decode cLW_law 608 = .ok (.invokevirtual 88, 3) := by decide +kernel
theorem dLW_law_611 : decode cLW_law 611 = .ok (.pop, 1) := by decide +kernel
theorem dLW_law_612 : decode cLW_law 612 = .ok (.goto 3, 3) := by decide +kernel
