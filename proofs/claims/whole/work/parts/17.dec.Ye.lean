theorem d_Ye_isOutside_0 : decode b_Ye_isOutside 0 = .ok (.iload_n 0, 1) := by decide +kernel
theorem d_Ye_isOutside_1 : decode b_Ye_isOutside 1 = .ok (.iload_n 1, 1) := by decide +kernel
theorem d_Ye_isOutside_2 : decode b_Ye_isOutside 2 = .ok (.if_icmp .lt 8, 3) := by decide +kernel
theorem d_Ye_isOutside_5 : decode b_Ye_isOutside 5 = .ok (.iload_n 0, 1) := by decide +kernel
theorem d_Ye_isOutside_6 : decode b_Ye_isOutside 6 = .ok (.iload_n 2, 1) := by decide +kernel
theorem d_Ye_isOutside_7 : decode b_Ye_isOutside 7 = .ok (.if_icmp .le 7, 3) := by decide +kernel
theorem d_Ye_isOutside_10 : decode b_Ye_isOutside 10 = .ok (.iconst 1, 1) := by decide +kernel
theorem d_Ye_isOutside_11 : decode b_Ye_isOutside 11 = .ok (.goto 4, 3) := by decide +kernel
theorem d_Ye_isOutside_14 : decode b_Ye_isOutside 14 = .ok (.iconst 0, 1) := by decide +kernel
theorem d_Ye_isOutside_15 : decode b_Ye_isOutside 15 = .ok (.ireturn, 1) := by decide +kernel
