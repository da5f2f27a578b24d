theorem d_L_law_763 : decode code 763 = .ok (.ireturn, 1) := by decide +kernel
