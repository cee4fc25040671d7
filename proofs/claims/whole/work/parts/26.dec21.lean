theorem zd_La_law_568 : decode zc_La_law 568 = .ok (.if_icmp .eq 5, 3) := by decide +kernel
theorem zd_La_law_571 : decode zc_La_law 571 = .ok (.iconst 0, 1) := by decide +kernel
theorem zd_La_law_572 : decode zc_La_law 572 = .ok (.ireturn, 1) := by decide +kernel
theorem zd_La_law_573 : decode zc_La_law 573 = .ok (.iinc 4 6, 3) := by decide +kernel
theorem zd_La_law_576 : decode zc_La_law 576 = .ok (.goto (-553), 3) := by decide +kernel
theorem zd_La_law_579 : decode zc_La_law 579 = .ok (.iconst 1, 1) := by decide +kernel
theorem zd_La_law_580 : decode zc_La_law 580 = .ok (.ireturn, 1) := by decide +kernel
