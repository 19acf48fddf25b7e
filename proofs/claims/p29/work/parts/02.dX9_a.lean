theorem dX9_values_0 : decode cX9_values 0 = .ok (.getstatic 69, 3) := by decide +kernel
theorem dX9_values_3 : decode cX9_values 3 = .ok (.invokevirtual 73, 3) := by decide +kernel
theorem dX9_values_6 : decode cX9_values 6 = .ok (.checkcast 74, 3) := by decide +kernel
theorem dX9_values_9 : decode cX9_values 9 = .ok (.areturn, 1) := by decide +kernel
