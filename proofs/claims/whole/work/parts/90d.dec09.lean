theorem dl_908 : decode code 908 = .ok (.iconst 1, 1) := by decide +kernel
theorem dl_909 : decode code 909 = .ok (.ireturn, 1) := by decide +kernel
