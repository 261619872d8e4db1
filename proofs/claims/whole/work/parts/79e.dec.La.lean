theorem d_La_law_710 : decode code 710 = .ok (.aload_n 1, 1) := by decide +kernel
theorem d_La_law_711 : decode code 711 = .ok (.aload_n 0, 1) := by decide +kernel
theorem d_La_law_712 : decode code 712 = .ok (.iload_n 3, 1) := by decide +kernel
theorem d_La_law_713 : decode code 713 = .ok (.iconst 1, 1) := by decide +kernel
theorem d_La_law_714 : decode code 714 = .ok (.iadd, 1) := by decide +kernel
theorem d_La_law_715 : decode code 715 = .ok (.iaload, 1) := by decide +kernel
theorem d_La_law_716 : decode code 716 = .ok (.invokevirtual 113, 3) := by decide +kernel
theorem d_La_law_719 : decode code 719 = .ok (.aload_n 2, 1) := by decide +kernel
theorem d_La_law_720 : decode code 720 = .ok (.aload_n 0, 1) := by decide +kernel
theorem d_La_law_721 : decode code 721 = .ok (.iload_n 3, 1) := by decide +kernel
theorem d_La_law_722 : decode code 722 = .ok (.iconst 1, 1) := by decide +kernel
theorem d_La_law_723 : decode code 723 = .ok (.iadd, 1) := by decide +kernel
theorem d_La_law_724 : decode code 724 = .ok (.iaload, 1) := by decide +kernel
theorem d_La_law_725 : decode code 725 = .ok (.invokevirtual 116, 3) := by decide +kernel
theorem d_La_law_728 : decode code 728 = .ok (.if_icmp .eq 5, 3) := by decide +kernel
theorem d_La_law_731 : decode code 731 = .ok (.iconst 0, 1) := by decide +kernel
theorem d_La_law_732 : decode code 732 = .ok (.ireturn, 1) := by decide +kernel
theorem d_La_law_733 : decode code 733 = .ok (.iinc 3 4, 3) := by decide +kernel
theorem d_La_law_736 : decode code 736 = .ok (.goto (-718), 3) := by decide +kernel
theorem d_La_law_739 : decode code 739 = .ok (.iconst 1, 1) := by decide +kernel
theorem d_La_law_740 : decode code 740 = .ok (.ireturn, 1) := by decide +kernel
