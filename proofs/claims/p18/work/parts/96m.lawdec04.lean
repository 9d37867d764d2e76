theorem dLW_law_594 : decode cLW_law 594 = .ok (.aload_n 0, 1) := by decide +kernel
theorem dLW_law_595 : decode cLW_law 595 = .ok (.iload_n 3, 1) := by decide +kernel
theorem dLW_law_596 : decode cLW_law 596 = .ok (.iconst 3, 1) := by decide +kernel
theorem dLW_law_597 : decode cLW_law 597 = .ok (.iadd, 1) := by decide +kernel
theorem dLW_law_598 : decode cLW_law 598 = .ok (.iaload, 1) := by decide +kernel
theorem dLW_law_599 : decode cLW_law 599 = .ok (.ifCond .eq 7, 3) := by decide +kernel
theorem dLW_law_602 : decode cLW_law 602 = .ok (.iconst 1, 1) := by decide +kernel
theorem dLW_law_603 : decode cLW_law 603 = .ok (.goto 4, 3) := by decide +kernel
theorem dLW_law_606 : decode cLW_law 606 = .ok (.iconst 0, 1) := by decide +kernel
theorem dLW_law_607 : decode cLW_law 607 = .ok (.invokevirtual 88, 3) := by decide +kernel
theorem dLW_law_610 : decode cLW_law 610 = .ok (.if_icmp .eq 5, 3) := by decide +kernel
