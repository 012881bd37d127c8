theorem d_M_gear_17 : decode b_M_gear 17 = .ok (.lload_n 2, 1) := by decide +kernel
theorem d_M_gear_18 : decode b_M_gear 18 = .ok (.invokevirtual 99, 3) := by decide +kernel
theorem d_M_gear_21 : decode b_M_gear 21 = .ok (.ifCond .eq 12, 3) := by decide +kernel
theorem d_M_gear_24 : decode b_M_gear 24 = .ok (.aload_n 0, 1) := by decide +kernel
theorem d_M_gear_25 : decode b_M_gear 25 = .ok (.iload_n 1, 1) := by decide +kernel
theorem d_M_gear_26 : decode b_M_gear 26 = .ok (.lload_n 2, 1) := by decide +kernel
theorem d_M_gear_27 : decode b_M_gear 27 = .ok (.invokevirtual 107, 3) := by decide +kernel
theorem d_M_gear_30 : decode b_M_gear 30 = .ok (.goto 5, 3) := by decide +kernel
theorem d_M_gear_33 : decode b_M_gear 33 = .ok (.bipush (-12), 2) := by decide +kernel
theorem d_M_gear_35 : decode b_M_gear 35 = .ok (.ireturn, 1) := by decide +kernel
