theorem dX6_used_52 : decode cX6_used 52 = .ok (.iconst (-1), 1) := by decide +kernel
theorem dX6_used_53 : decode cX6_used 53 = .ok (.ireturn, 1) := by decide +kernel
