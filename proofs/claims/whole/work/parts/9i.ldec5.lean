theorem d_law_1026 : decode code 1026 = .ok (.lcmp, 1) := by decide +kernel
theorem d_law_1027 : decode code 1027 = .ok (.ifCond .eq 5, 3) := by decide +kernel
theorem d_law_1032 : decode code 1032 = .ok (.iinc 3 6, 3) := by decide +kernel
theorem d_law_1035 : decode code 1035 = .ok (.goto (-1017), 3) := by decide +kernel
theorem d_law_1038 : decode code 1038 = .ok (.iconst 1, 1) := by decide +kernel
theorem d_law_1039 : decode code 1039 = .ok (.ireturn, 1) := by decide +kernel
