/-! rows that decode, K -/
theorem dK_linkFrom_42 : decode cK_linkFrom 42 = .ok (.iload 4, 2) := by decide +kernel
theorem dK_linkFrom_44 : decode cK_linkFrom 44 = .ok (.istore_n 3, 1) := by decide +kernel
theorem dK_linkFrom_45 : decode cK_linkFrom 45 = .ok (.iinc 4 1, 3) := by decide +kernel
theorem dK_linkFrom_48 : decode cK_linkFrom 48 = .ok (.goto (-43), 3) := by decide +kernel
theorem dK_linkFrom_51 : decode cK_linkFrom 51 = .ok (.iload_n 3, 1) := by decide +kernel
theorem dK_linkFrom_52 : decode cK_linkFrom 52 = .ok (.ireturn, 1) := by decide +kernel
