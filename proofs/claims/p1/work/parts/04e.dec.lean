theorem dX7_used_9 : decode cX7_used 9 = .ok (.aload_n 0, 1) := by decide +kernel
theorem dX7_used_10 : decode cX7_used 10 = .ok (.getfield 286, 3) := by decide +kernel
theorem dX7_used_13 : decode cX7_used 13 = .ok (.goto 28, 3) := by decide +kernel
theorem dX7_used_16 : decode cX7_used 16 = .ok (.iload_n 1, 1) := by decide +kernel
theorem dX7_used_17 : decode cX7_used 17 = .ok (.iconst 1, 1) := by decide +kernel
theorem dX7_used_18 : decode cX7_used 18 = .ok (.if_icmp .ne 10, 3) := by decide +kernel
theorem dX7_used_21 : decode cX7_used 21 = .ok (.aload_n 0, 1) := by decide +kernel
theorem dX7_used_22 : decode cX7_used 22 = .ok (.getfield 289, 3) := by decide +kernel
theorem dX7_used_25 : decode cX7_used 25 = .ok (.goto 16, 3) := by decide +kernel
theorem dX7_used_28 : decode cX7_used 28 = .ok (.iload_n 1, 1) := by decide +kernel
theorem dX7_used_29 : decode cX7_used 29 = .ok (.iconst 2, 1) := by decide +kernel
theorem dX7_used_30 : decode cX7_used 30 = .ok (.if_icmp .ne 10, 3) := by decide +kernel
theorem dX7_used_33 : decode cX7_used 33 = .ok (.aload_n 0, 1) := by decide +kernel
theorem dX7_used_34 : decode cX7_used 34 = .ok (.getfield 292, 3) := by decide +kernel
theorem dX7_used_37 : decode cX7_used 37 = .ok (.goto 4, 3) := by decide +kernel
theorem dX7_used_40 : decode cX7_used 40 = .ok (.iconst (-1), 1) := by decide +kernel
theorem dX7_used_41 : decode cX7_used 41 = .ok (.ireturn, 1) := by decide +kernel
