theorem dX0_setsOfParts_0 : decode cX0_setsOfParts 0 = .ok (.iconst 1, 1) := by decide +kernel
theorem dX0_setsOfParts_1 : decode cX0_setsOfParts 1 = .ok (.aload_n 0, 1) := by decide +kernel
theorem dX0_setsOfParts_2 : decode cX0_setsOfParts 2 = .ok (.getfield 13, 3) := by decide +kernel
theorem dX0_setsOfParts_5 : decode cX0_setsOfParts 5 = .ok (.iconst 3, 1) := by decide +kernel
theorem dX0_setsOfParts_6 : decode cX0_setsOfParts 6 = .ok (.iaload, 1) := by decide +kernel
theorem dX0_setsOfParts_7 : decode cX0_setsOfParts 7 = .ok (.ishl, 1) := by decide +kernel
theorem dX0_setsOfParts_8 : decode cX0_setsOfParts 8 = .ok (.ireturn, 1) := by decide +kernel
theorem dX6_bridge_0 : decode cX6_bridge 0 = .ok (.aload_n 0, 1) := by decide +kernel
theorem dX6_bridge_1 : decode cX6_bridge 1 = .ok (.iload_n 1, 1) := by decide +kernel
theorem dX6_bridge_2 : decode cX6_bridge 2 = .ok (.invokevirtual 136, 3) := by decide +kernel
theorem dX6_bridge_5 : decode cX6_bridge 5 = .ok (.ifCond .eq 45, 3) := by decide +kernel
theorem dX6_bridge_50 : decode cX6_bridge 50 = .ok (.aload_n 0, 1) := by decide +kernel
theorem dX6_bridge_51 : decode cX6_bridge 51 = .ok (.bipush (-2), 2) := by decide +kernel
theorem dX6_bridge_53 : decode cX6_bridge 53 = .ok (.invokevirtual 70, 3) := by decide +kernel
theorem dX6_bridge_56 : decode cX6_bridge 56 = .ok (.ireturn, 1) := by decide +kernel
theorem dX6_isBridge_0 : decode cX6_isBridge 0 = .ok (.iload_n 1, 1) := by decide +kernel
theorem dX6_isBridge_1 : decode cX6_isBridge 1 = .ok (.iconst 0, 1) := by decide +kernel
theorem dX6_isBridge_2 : decode cX6_isBridge 2 = .ok (.aload_n 0, 1) := by decide +kernel
theorem dX6_isBridge_3 : decode cX6_isBridge 3 = .ok (.getfield 10, 3) := by decide +kernel
theorem dX6_isBridge_6 : decode cX6_isBridge 6 = .ok (.getfield 273, 3) := by decide +kernel
theorem dX6_isBridge_9 : decode cX6_isBridge 9 = .ok (.iconst 1, 1) := by decide +kernel
theorem dX6_isBridge_10 : decode cX6_isBridge 10 = .ok (.iaload, 1) := by decide +kernel
theorem dX6_isBridge_11 : decode cX6_isBridge 11 = .ok (.iconst 1, 1) := by decide +kernel
theorem dX6_isBridge_12 : decode cX6_isBridge 12 = .ok (.isub, 1) := by decide +kernel
theorem dX6_isBridge_13 : decode cX6_isBridge 13 = .ok (.invokestatic 66, 3) := by decide +kernel
theorem dX6_isBridge_16 : decode cX6_isBridge 16 = .ok (.ireturn, 1) := by decide +kernel
theorem dX6_isJourney_0 : decode cX6_isJourney 0 = .ok (.aload_n 0, 1) := by decide +kernel
theorem dX6_isJourney_1 : decode cX6_isJourney 1 = .ok (.iload_n 1, 1) := by decide +kernel
theorem dX6_isJourney_2 : decode cX6_isJourney 2 = .ok (.iload_n 2, 1) := by decide +kernel
theorem dX6_isJourney_3 : decode cX6_isJourney 3 = .ok (.invokevirtual 200, 3) := by decide +kernel
theorem dX6_isJourney_6 : decode cX6_isJourney 6 = .ok (.ifCond .eq 22, 3) := by decide +kernel
theorem dX6_isJourney_28 : decode cX6_isJourney 28 = .ok (.iconst 0, 1) := by decide +kernel
theorem dX6_isJourney_29 : decode cX6_isJourney 29 = .ok (.ireturn, 1) := by decide +kernel
theorem dX6_isPack_0 : decode cX6_isPack 0 = .ok (.aload_n 0, 1) := by decide +kernel
theorem dX6_isPack_1 : decode cX6_isPack 1 = .ok (.iload_n 1, 1) := by decide +kernel
theorem dX6_isPack_2 : decode cX6_isPack 2 = .ok (.invokevirtual 194, 3) := by decide +kernel
theorem dX6_isPack_5 : decode cX6_isPack 5 = .ok (.ifCond .eq 24, 3) := by decide +kernel
theorem dX6_isPack_29 : decode cX6_isPack 29 = .ok (.iconst 0, 1) := by decide +kernel
theorem dX6_isPack_30 : decode cX6_isPack 30 = .ok (.ireturn, 1) := by decide +kernel
theorem dX6_isPlace_0 : decode cX6_isPlace 0 = .ok (.iload_n 0, 1) := by decide +kernel
theorem dX6_isPlace_1 : decode cX6_isPlace 1 = .ok (.iconst 0, 1) := by decide +kernel
theorem dX6_isPlace_2 : decode cX6_isPlace 2 = .ok (.bipush 15, 2) := by decide +kernel
theorem dX6_isPlace_4 : decode cX6_isPlace 4 = .ok (.invokestatic 66, 3) := by decide +kernel
theorem dX6_isPlace_7 : decode cX6_isPlace 7 = .ok (.ireturn, 1) := by decide +kernel
theorem dX6_isRoad_0 : decode cX6_isRoad 0 = .ok (.iload_n 1, 1) := by decide +kernel
theorem dX6_isRoad_1 : decode cX6_isRoad 1 = .ok (.iconst 0, 1) := by decide +kernel
theorem dX6_isRoad_2 : decode cX6_isRoad 2 = .ok (.aload_n 0, 1) := by decide +kernel
theorem dX6_isRoad_3 : decode cX6_isRoad 3 = .ok (.getfield 10, 3) := by decide +kernel
theorem dX6_isRoad_6 : decode cX6_isRoad 6 = .ok (.getfield 273, 3) := by decide +kernel
theorem dX6_isRoad_9 : decode cX6_isRoad 9 = .ok (.iconst 0, 1) := by decide +kernel
theorem dX6_isRoad_10 : decode cX6_isRoad 10 = .ok (.iaload, 1) := by decide +kernel
theorem dX6_isRoad_11 : decode cX6_isRoad 11 = .ok (.iconst 1, 1) := by decide +kernel
theorem dX6_isRoad_12 : decode cX6_isRoad 12 = .ok (.isub, 1) := by decide +kernel
theorem dX6_isRoad_13 : decode cX6_isRoad 13 = .ok (.invokestatic 66, 3) := by decide +kernel
theorem dX6_isRoad_16 : decode cX6_isRoad 16 = .ok (.ireturn, 1) := by decide +kernel
theorem dX6_isShelf_0 : decode cX6_isShelf 0 = .ok (.iload_n 0, 1) := by decide +kernel
theorem dX6_isShelf_1 : decode cX6_isShelf 1 = .ok (.iconst 0, 1) := by decide +kernel
theorem dX6_isShelf_2 : decode cX6_isShelf 2 = .ok (.bipush 7, 2) := by decide +kernel
theorem dX6_isShelf_4 : decode cX6_isShelf 4 = .ok (.invokestatic 66, 3) := by decide +kernel
theorem dX6_isShelf_7 : decode cX6_isShelf 7 = .ok (.ireturn, 1) := by decide +kernel
theorem dX6_isWaggon_0 : decode cX6_isWaggon 0 = .ok (.iload_n 1, 1) := by decide +kernel
theorem dX6_isWaggon_1 : decode cX6_isWaggon 1 = .ok (.iconst 0, 1) := by decide +kernel
theorem dX6_isWaggon_2 : decode cX6_isWaggon 2 = .ok (.aload_n 0, 1) := by decide +kernel
theorem dX6_isWaggon_3 : decode cX6_isWaggon 3 = .ok (.getfield 10, 3) := by decide +kernel
theorem dX6_isWaggon_6 : decode cX6_isWaggon 6 = .ok (.getfield 273, 3) := by decide +kernel
theorem dX6_isWaggon_9 : decode cX6_isWaggon 9 = .ok (.iconst 2, 1) := by decide +kernel
theorem dX6_isWaggon_10 : decode cX6_isWaggon 10 = .ok (.iaload, 1) := by decide +kernel
theorem dX6_isWaggon_11 : decode cX6_isWaggon 11 = .ok (.iconst 1, 1) := by decide +kernel
theorem dX6_isWaggon_12 : decode cX6_isWaggon 12 = .ok (.isub, 1) := by decide +kernel
theorem dX6_isWaggon_13 : decode cX6_isWaggon 13 = .ok (.invokestatic 66, 3) := by decide +kernel
theorem dX6_isWaggon_16 : decode cX6_isWaggon 16 = .ok (.ireturn, 1) := by decide +kernel
theorem dX6_refuse_0 : decode cX6_refuse 0 = .ok (.bipush (-2), 2) := by decide +kernel
theorem dX6_refuse_2 : decode cX6_refuse 2 = .ok (.iload_n 1, 1) := by decide +kernel
theorem dX6_refuse_3 : decode cX6_refuse 3 = .ok (.isub, 1) := by decide +kernel
theorem dX6_refuse_4 : decode cX6_refuse 4 = .ok (.istore_n 2, 1) := by decide +kernel
theorem dX6_refuse_5 : decode cX6_refuse 5 = .ok (.iload_n 2, 1) := by decide +kernel
theorem dX6_refuse_6 : decode cX6_refuse 6 = .ok (.iconst 0, 1) := by decide +kernel
theorem dX6_refuse_7 : decode cX6_refuse 7 = .ok (.iconst 4, 1) := by decide +kernel
theorem dX6_refuse_8 : decode cX6_refuse 8 = .ok (.invokestatic 66, 3) := by decide +kernel
theorem dX6_refuse_11 : decode cX6_refuse 11 = .ok (.ifCond .eq 13, 3) := by decide +kernel
theorem dX6_refuse_14 : decode cX6_refuse 14 = .ok (.aload_n 0, 1) := by decide +kernel
theorem dX6_refuse_15 : decode cX6_refuse 15 = .ok (.getfield 55, 3) := by decide +kernel
theorem dX6_refuse_18 : decode cX6_refuse 18 = .ok (.iload_n 2, 1) := by decide +kernel
theorem dX6_refuse_19 : decode cX6_refuse 19 = .ok (.dup2, 1) := by decide +kernel
theorem dX6_refuse_20 : decode cX6_refuse 20 = .ok (.iaload, 1) := by decide +kernel
theorem dX6_refuse_21 : decode cX6_refuse 21 = .ok (.iconst 1, 1) := by decide +kernel
theorem dX6_refuse_22 : decode cX6_refuse 22 = .ok (.iadd, 1) := by decide +kernel
theorem dX6_refuse_23 : decode cX6_refuse 23 = .ok (.iastore, 1) := by decide +kernel
theorem dX6_refuse_24 : decode cX6_refuse 24 = .ok (.iload_n 1, 1) := by decide +kernel
theorem dX6_refuse_25 : decode cX6_refuse 25 = .ok (.ireturn, 1) := by decide +kernel
theorem dX6_within_0 : decode cX6_within 0 = .ok (.iload_n 0, 1) := by decide +kernel
theorem dX6_within_1 : decode cX6_within 1 = .ok (.iload_n 1, 1) := by decide +kernel
theorem dX6_within_2 : decode cX6_within 2 = .ok (.if_icmp .lt 12, 3) := by decide +kernel
theorem dX6_within_5 : decode cX6_within 5 = .ok (.iload_n 0, 1) := by decide +kernel
theorem dX6_within_6 : decode cX6_within 6 = .ok (.iload_n 2, 1) := by decide +kernel
theorem dX6_within_7 : decode cX6_within 7 = .ok (.if_icmp .gt 7, 3) := by decide +kernel
theorem dX6_within_10 : decode cX6_within 10 = .ok (.iconst 1, 1) := by decide +kernel
theorem dX6_within_11 : decode cX6_within 11 = .ok (.goto 4, 3) := by decide +kernel
theorem dX6_within_14 : decode cX6_within 14 = .ok (.iconst 0, 1) := by decide +kernel
theorem dX6_within_15 : decode cX6_within 15 = .ok (.ireturn, 1) := by decide +kernel
