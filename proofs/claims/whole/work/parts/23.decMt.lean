theorem d_Mt_min_0 : decode k_Mt_min.1 0 = .ok (.iload_n 0, 1) := by decide +kernel
theorem d_Mt_min_1 : decode k_Mt_min.1 1 = .ok (.iload_n 1, 1) := by decide +kernel
theorem d_Mt_min_2 : decode k_Mt_min.1 2 = .ok (.if_icmp .gt 7, 3) := by decide +kernel
theorem d_Mt_min_5 : decode k_Mt_min.1 5 = .ok (.iload_n 0, 1) := by decide +kernel
theorem d_Mt_min_6 : decode k_Mt_min.1 6 = .ok (.goto 4, 3) := by decide +kernel
theorem d_Mt_min_9 : decode k_Mt_min.1 9 = .ok (.iload_n 1, 1) := by decide +kernel
theorem d_Mt_min_10 : decode k_Mt_min.1 10 = .ok (.ireturn, 1) := by decide +kernel
theorem d_Mt_max_0 : decode k_Mt_max.1 0 = .ok (.iload_n 0, 1) := by decide +kernel
theorem d_Mt_max_1 : decode k_Mt_max.1 1 = .ok (.iload_n 1, 1) := by decide +kernel
theorem d_Mt_max_2 : decode k_Mt_max.1 2 = .ok (.if_icmp .lt 7, 3) := by decide +kernel
theorem d_Mt_max_5 : decode k_Mt_max.1 5 = .ok (.iload_n 0, 1) := by decide +kernel
theorem d_Mt_max_6 : decode k_Mt_max.1 6 = .ok (.goto 4, 3) := by decide +kernel
theorem d_Mt_max_9 : decode k_Mt_max.1 9 = .ok (.iload_n 1, 1) := by decide +kernel
theorem d_Mt_max_10 : decode k_Mt_max.1 10 = .ok (.ireturn, 1) := by decide +kernel
