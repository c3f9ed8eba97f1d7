theorem d_Law_1440 : decode code 1440 = .ok (.goto (-1417), 3) := by decide +kernel
theorem d_Law_1443 : decode code 1443 = .ok (.iconst 1, 1) := by decide +kernel
theorem d_Law_1444 : decode code 1444 = .ok (.ireturn, 1) := by decide +kernel
