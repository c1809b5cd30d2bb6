theorem dX0_countBridges_0 : decode cX0_countBridges 0 = .ok (.iconst 0, 1) := by decide +kernel
theorem dX0_countBridges_1 : decode cX0_countBridges 1 = .ok (.istore_n 2, 1) := by decide +kernel
theorem dX0_countBridges_2 : decode cX0_countBridges 2 = .ok (.iconst 0, 1) := by decide +kernel
theorem dX0_countBridges_3 : decode cX0_countBridges 3 = .ok (.istore_n 3, 1) := by decide +kernel
theorem dX0_countBridges_4 : decode cX0_countBridges 4 = .ok (.iload_n 3, 1) := by decide +kernel
theorem dX0_countBridges_5 : decode cX0_countBridges 5 = .ok (.aload_n 0, 1) := by decide +kernel
theorem dX0_countBridges_6 : decode cX0_countBridges 6 = .ok (.getfield 13, 3) := by decide +kernel
theorem dX0_countBridges_9 : decode cX0_countBridges 9 = .ok (.iconst 1, 1) := by decide +kernel
theorem dX0_countBridges_10 : decode cX0_countBridges 10 = .ok (.iaload, 1) := by decide +kernel
theorem dX0_countBridges_11 : decode cX0_countBridges 11 = .ok (.if_icmp .ge 18, 3) := by decide +kernel
theorem dX0_countBridges_14 : decode cX0_countBridges 14 = .ok (.iload_n 2, 1) := by decide +kernel
theorem dX0_countBridges_15 : decode cX0_countBridges 15 = .ok (.aload_n 0, 1) := by decide +kernel
theorem dX0_countBridges_16 : decode cX0_countBridges 16 = .ok (.iload_n 3, 1) := by decide +kernel
theorem dX0_countBridges_17 : decode cX0_countBridges 17 = .ok (.iload_n 1, 1) := by decide +kernel
theorem dX0_countBridges_18 : decode cX0_countBridges 18 = .ok (.invokevirtual 50, 3) := by decide +kernel
theorem dX0_countBridges_21 : decode cX0_countBridges 21 = .ok (.iadd, 1) := by decide +kernel
theorem dX0_countBridges_22 : decode cX0_countBridges 22 = .ok (.istore_n 2, 1) := by decide +kernel
theorem dX0_countBridges_23 : decode cX0_countBridges 23 = .ok (.iinc 3 1, 3) := by decide +kernel
theorem dX0_countBridges_26 : decode cX0_countBridges 26 = .ok (.goto (-22), 3) := by decide +kernel
theorem dX0_countBridges_29 : decode cX0_countBridges 29 = .ok (.iload_n 2, 1) := by decide +kernel
theorem dX0_countBridges_30 : decode cX0_countBridges 30 = .ok (.ireturn, 1) := by decide +kernel
theorem dX0_mayBeTakenFor_0 : decode cX0_mayBeTakenFor 0 = .ok (.getstatic 57, 3) := by decide +kernel
theorem dX0_mayBeTakenFor_3 : decode cX0_mayBeTakenFor 3 = .ok (.aload_n 0, 1) := by decide +kernel
theorem dX0_mayBeTakenFor_4 : decode cX0_mayBeTakenFor 4 = .ok (.iload_n 1, 1) := by decide +kernel
theorem dX0_mayBeTakenFor_5 : decode cX0_mayBeTakenFor 5 = .ok (.iconst 1, 1) := by decide +kernel
theorem dX0_mayBeTakenFor_6 : decode cX0_mayBeTakenFor 6 = .ok (.invokevirtual 50, 3) := by decide +kernel
theorem dX0_mayBeTakenFor_9 : decode cX0_mayBeTakenFor 9 = .ok (.iaload, 1) := by decide +kernel
theorem dX0_mayBeTakenFor_10 : decode cX0_mayBeTakenFor 10 = .ok (.iload_n 2, 1) := by decide +kernel
theorem dX0_mayBeTakenFor_11 : decode cX0_mayBeTakenFor 11 = .ok (.ishr, 1) := by decide +kernel
theorem dX0_mayBeTakenFor_12 : decode cX0_mayBeTakenFor 12 = .ok (.iconst 1, 1) := by decide +kernel
theorem dX0_mayBeTakenFor_13 : decode cX0_mayBeTakenFor 13 = .ok (.iand, 1) := by decide +kernel
theorem dX0_mayBeTakenFor_14 : decode cX0_mayBeTakenFor 14 = .ok (.iconst 1, 1) := by decide +kernel
theorem dX0_mayBeTakenFor_15 : decode cX0_mayBeTakenFor 15 = .ok (.if_icmp .ne 7, 3) := by decide +kernel
theorem dX0_mayBeTakenFor_18 : decode cX0_mayBeTakenFor 18 = .ok (.iconst 1, 1) := by decide +kernel
theorem dX0_mayBeTakenFor_19 : decode cX0_mayBeTakenFor 19 = .ok (.goto 4, 3) := by decide +kernel
theorem dX0_mayBeTakenFor_22 : decode cX0_mayBeTakenFor 22 = .ok (.iconst 0, 1) := by decide +kernel
theorem dX0_mayBeTakenFor_23 : decode cX0_mayBeTakenFor 23 = .ok (.ireturn, 1) := by decide +kernel
theorem dX0_sumOfParts_0 : decode cX0_sumOfParts 0 = .ok (.iconst 0, 1) := by decide +kernel
theorem dX0_sumOfParts_1 : decode cX0_sumOfParts 1 = .ok (.istore_n 3, 1) := by decide +kernel
theorem dX0_sumOfParts_2 : decode cX0_sumOfParts 2 = .ok (.iconst 0, 1) := by decide +kernel
theorem dX0_sumOfParts_3 : decode cX0_sumOfParts 3 = .ok (.istore 4, 2) := by decide +kernel
theorem dX0_sumOfParts_5 : decode cX0_sumOfParts 5 = .ok (.iload 4, 2) := by decide +kernel
theorem dX0_sumOfParts_7 : decode cX0_sumOfParts 7 = .ok (.aload_n 0, 1) := by decide +kernel
theorem dX0_sumOfParts_8 : decode cX0_sumOfParts 8 = .ok (.getfield 13, 3) := by decide +kernel
theorem dX0_sumOfParts_11 : decode cX0_sumOfParts 11 = .ok (.iconst 3, 1) := by decide +kernel
theorem dX0_sumOfParts_12 : decode cX0_sumOfParts 12 = .ok (.iaload, 1) := by decide +kernel
theorem dX0_sumOfParts_13 : decode cX0_sumOfParts 13 = .ok (.if_icmp .ge 33, 3) := by decide +kernel
theorem dX0_sumOfParts_16 : decode cX0_sumOfParts 16 = .ok (.iload_n 1, 1) := by decide +kernel
theorem dX0_sumOfParts_17 : decode cX0_sumOfParts 17 = .ok (.iload 4, 2) := by decide +kernel
theorem dX0_sumOfParts_19 : decode cX0_sumOfParts 19 = .ok (.ishr, 1) := by decide +kernel
theorem dX0_sumOfParts_20 : decode cX0_sumOfParts 20 = .ok (.iconst 1, 1) := by decide +kernel
theorem dX0_sumOfParts_21 : decode cX0_sumOfParts 21 = .ok (.iand, 1) := by decide +kernel
theorem dX0_sumOfParts_22 : decode cX0_sumOfParts 22 = .ok (.iconst 1, 1) := by decide +kernel
theorem dX0_sumOfParts_23 : decode cX0_sumOfParts 23 = .ok (.if_icmp .ne 17, 3) := by decide +kernel
theorem dX0_sumOfParts_26 : decode cX0_sumOfParts 26 = .ok (.iload_n 3, 1) := by decide +kernel
theorem dX0_sumOfParts_27 : decode cX0_sumOfParts 27 = .ok (.aload_n 0, 1) := by decide +kernel
theorem dX0_sumOfParts_28 : decode cX0_sumOfParts 28 = .ok (.getfield 27, 3) := by decide +kernel
theorem dX0_sumOfParts_31 : decode cX0_sumOfParts 31 = .ok (.iload 4, 2) := by decide +kernel
theorem dX0_sumOfParts_33 : decode cX0_sumOfParts 33 = .ok (.iconst 2, 1) := by decide +kernel
theorem dX0_sumOfParts_34 : decode cX0_sumOfParts 34 = .ok (.imul, 1) := by decide +kernel
theorem dX0_sumOfParts_35 : decode cX0_sumOfParts 35 = .ok (.iload_n 2, 1) := by decide +kernel
theorem dX0_sumOfParts_36 : decode cX0_sumOfParts 36 = .ok (.iadd, 1) := by decide +kernel
theorem dX0_sumOfParts_37 : decode cX0_sumOfParts 37 = .ok (.iaload, 1) := by decide +kernel
theorem dX0_sumOfParts_38 : decode cX0_sumOfParts 38 = .ok (.iadd, 1) := by decide +kernel
theorem dX0_sumOfParts_39 : decode cX0_sumOfParts 39 = .ok (.istore_n 3, 1) := by decide +kernel
theorem dX0_sumOfParts_40 : decode cX0_sumOfParts 40 = .ok (.iinc 4 1, 3) := by decide +kernel
theorem dX0_sumOfParts_43 : decode cX0_sumOfParts 43 = .ok (.goto (-38), 3) := by decide +kernel
theorem dX0_sumOfParts_46 : decode cX0_sumOfParts 46 = .ok (.iload_n 3, 1) := by decide +kernel
theorem dX0_sumOfParts_47 : decode cX0_sumOfParts 47 = .ok (.ireturn, 1) := by decide +kernel
