theorem dX0_countBridges_0 : decode cX0_countBridges 0 = .ok (.iconst 0, 1) := by decide +kernel
theorem dX0_countBridges_1 : decode cX0_countBridges 1 = .ok (.istore_n 2, 1) := by decide +kernel
theorem dX0_countBridges_2 : decode cX0_countBridges 2 = .ok (.iconst 0, 1) := by decide +kernel
theorem dX0_countBridges_3 : decode cX0_countBridges 3 = .ok (.istore_n 3, 1) := by decide +kernel
theorem dX0_countBridges_4 : decode cX0_countBridges 4 = .ok (.iload_n 3, 1) := by decide +kernel
theorem dX0_countBridges_5 : decode cX0_countBridges 5 = .ok (.aload_n 0, 1) := by decide +kernel
theorem dX0_countBridges_6 : decode cX0_countBridges 6 = .ok (.getfield 13, 3) := by decide +kernel
theorem dX0_countBridges_9 : decode cX0_countBridges 9 = .ok (.iconst 1, 1) := by decide +kernel
theorem dX0_countBridges_10 : decode cX0_countBridges 10 = .ok (.iaload, 1) := by decide +kernel
theorem dX0_countBridges_11 : decode cX0_countBridges 11 = .ok (.if_icmp .ge 18, 3) := by decide +kernel
theorem dX0_countBridges_14 : decode cX0_countBridges 14 = .ok (.iload_n 2, 1) := by decide +kernel
theorem dX0_countBridges_15 : decode cX0_countBridges 15 = .ok (.aload_n 0, 1) := by decide +kernel
theorem dX0_countBridges_16 : decode cX0_countBridges 16 = .ok (.iload_n 3, 1) := by decide +kernel
theorem dX0_countBridges_17 : decode cX0_countBridges 17 = .ok (.iload_n 1, 1) := by decide +kernel
theorem dX0_countBridges_18 : decode cX0_countBridges 18 = .ok (.invokevirtual 50, 3) := by decide +kernel
theorem dX0_countBridges_21 : decode cX0_countBridges 21 = .ok (.iadd, 1) := by decide +kernel
theorem dX0_countBridges_22 : decode cX0_countBridges 22 = .ok (.istore_n 2, 1) := by decide +kernel
theorem dX0_countBridges_23 : decode cX0_countBridges 23 = .ok (.iinc 3 1, 3) := by decide +kernel
theorem dX0_countBridges_26 : decode cX0_countBridges 26 = .ok (.goto (-22), 3) := by decide +kernel
theorem dX0_countBridges_29 : decode cX0_countBridges 29 = .ok (.iload_n 2, 1) := by decide +kernel
theorem dX0_countBridges_30 : decode cX0_countBridges 30 = .ok (.ireturn, 1) := by decide +kernel
