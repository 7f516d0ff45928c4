theorem d_La_law_794 : decode b_La_law 794 = .ok (.iconst 0, 1) := by decide +kernel
theorem d_La_law_795 : decode b_La_law 795 = .ok (.ireturn, 1) := by decide +kernel
theorem d_La_law_796 : decode b_La_law 796 = .ok (.goto 3, 3) := by decide +kernel
theorem d_La_law_799 : decode b_La_law 799 = .ok (.iinc 4 6, 3) := by decide +kernel
theorem d_La_law_802 : decode b_La_law 802 = .ok (.goto (-779), 3) := by decide +kernel
theorem d_La_law_805 : decode b_La_law 805 = .ok (.iconst 1, 1) := by decide +kernel
theorem d_La_law_806 : decode b_La_law 806 = .ok (.ireturn, 1) := by decide +kernel
