theorem q_1434 : Cond.methodLink RX7 327 yX7_over ∈ oh_t := oh_of (i := 1434) (by decide +kernel) rfl
theorem q_1435 : Cond.static yX7_over ∈ oh_t := oh_of (i := 1435) (by decide +kernel) rfl
theorem q_1436 : Cond.code yX7_over cX7_over 3 none ∈ oh_t := oh_of (i := 1436) (by decide +kernel) rfl
theorem pdX7_over : yX7_over.cls ≠ "java/lang/invoke/MethodHandle" ∧ yX7_over.cls ≠ "java/lang/invoke/VarHandle" ∧ (parseMethodDescriptor yX7_over.desc).map (fun d => d.parameters.length) = some 2 := by decide +kernel
theorem dX7_over_0 : decode cX7_over 0 = .ok (.iconst 0, 1) := by decide +kernel
theorem dX7_over_1 : decode cX7_over 1 = .ok (.istore_n 2, 1) := by decide +kernel
theorem dX7_over_2 : decode cX7_over 2 = .ok (.iload_n 2, 1) := by decide +kernel
theorem dX7_over_3 : decode cX7_over 3 = .ok (.aload_n 0, 1) := by decide +kernel
theorem dX7_over_4 : decode cX7_over 4 = .ok (.arraylength, 1) := by decide +kernel
theorem dX7_over_5 : decode cX7_over 5 = .ok (.if_icmp .ge 15, 3) := by decide +kernel
theorem dX7_over_8 : decode cX7_over 8 = .ok (.aload_n 1, 1) := by decide +kernel
theorem dX7_over_9 : decode cX7_over 9 = .ok (.iload_n 2, 1) := by decide +kernel
theorem dX7_over_10 : decode cX7_over 10 = .ok (.aload_n 0, 1) := by decide +kernel
theorem dX7_over_11 : decode cX7_over 11 = .ok (.iload_n 2, 1) := by decide +kernel
theorem dX7_over_12 : decode cX7_over 12 = .ok (.iaload, 1) := by decide +kernel
theorem dX7_over_13 : decode cX7_over 13 = .ok (.iastore, 1) := by decide +kernel
theorem dX7_over_14 : decode cX7_over 14 = .ok (.iinc 2 1, 3) := by decide +kernel
theorem dX7_over_17 : decode cX7_over 17 = .ok (.goto (-15), 3) := by decide +kernel
theorem dX7_over_20 : decode cX7_over 20 = .ok (.return_, 1) := by decide +kernel
theorem dX7_overAll_0 : decode cX7_overAll 0 = .ok (.iconst 0, 1) := by decide +kernel
theorem dX7_overAll_1 : decode cX7_overAll 1 = .ok (.istore_n 2, 1) := by decide +kernel
theorem dX7_overAll_2 : decode cX7_overAll 2 = .ok (.iload_n 2, 1) := by decide +kernel
theorem dX7_overAll_3 : decode cX7_overAll 3 = .ok (.aload_n 0, 1) := by decide +kernel
theorem dX7_overAll_4 : decode cX7_overAll 4 = .ok (.arraylength, 1) := by decide +kernel
theorem dX7_overAll_5 : decode cX7_overAll 5 = .ok (.if_icmp .ge 18, 3) := by decide +kernel
theorem dX7_overAll_8 : decode cX7_overAll 8 = .ok (.aload_n 0, 1) := by decide +kernel
theorem dX7_overAll_9 : decode cX7_overAll 9 = .ok (.iload_n 2, 1) := by decide +kernel
theorem dX7_overAll_10 : decode cX7_overAll 10 = .ok (.aaload, 1) := by decide +kernel
theorem dX7_overAll_11 : decode cX7_overAll 11 = .ok (.aload_n 1, 1) := by decide +kernel
theorem dX7_overAll_12 : decode cX7_overAll 12 = .ok (.iload_n 2, 1) := by decide +kernel
theorem dX7_overAll_13 : decode cX7_overAll 13 = .ok (.aaload, 1) := by decide +kernel
theorem dX7_overAll_14 : decode cX7_overAll 14 = .ok (.invokestatic 327, 3) := by decide +kernel
theorem dX7_overAll_17 : decode cX7_overAll 17 = .ok (.iinc 2 1, 3) := by decide +kernel
theorem dX7_overAll_20 : decode cX7_overAll 20 = .ok (.goto (-18), 3) := by decide +kernel
theorem dX7_overAll_23 : decode cX7_overAll 23 = .ok (.return_, 1) := by decide +kernel
theorem dX7_takeFrom_0 : decode cX7_takeFrom 0 = .ok (.aload_n 0, 1) := by decide +kernel
theorem dX7_takeFrom_1 : decode cX7_takeFrom 1 = .ok (.aload_n 1, 1) := by decide +kernel
theorem dX7_takeFrom_2 : decode cX7_takeFrom 2 = .ok (.getfield 66, 3) := by decide +kernel
theorem dX7_takeFrom_5 : decode cX7_takeFrom 5 = .ok (.putfield 66, 3) := by decide +kernel
theorem dX7_takeFrom_8 : decode cX7_takeFrom 8 = .ok (.aload_n 1, 1) := by decide +kernel
theorem dX7_takeFrom_9 : decode cX7_takeFrom 9 = .ok (.getfield 39, 3) := by decide +kernel
theorem dX7_takeFrom_12 : decode cX7_takeFrom 12 = .ok (.aload_n 0, 1) := by decide +kernel
theorem dX7_takeFrom_13 : decode cX7_takeFrom 13 = .ok (.getfield 39, 3) := by decide +kernel
theorem dX7_takeFrom_16 : decode cX7_takeFrom 16 = .ok (.invokestatic 331, 3) := by decide +kernel
theorem dX7_takeFrom_19 : decode cX7_takeFrom 19 = .ok (.aload_n 0, 1) := by decide +kernel
theorem dX7_takeFrom_20 : decode cX7_takeFrom 20 = .ok (.aload_n 1, 1) := by decide +kernel
theorem dX7_takeFrom_21 : decode cX7_takeFrom 21 = .ok (.getfield 70, 3) := by decide +kernel
theorem dX7_takeFrom_24 : decode cX7_takeFrom 24 = .ok (.putfield 70, 3) := by decide +kernel
theorem dX7_takeFrom_27 : decode cX7_takeFrom 27 = .ok (.aload_n 1, 1) := by decide +kernel
theorem dX7_takeFrom_28 : decode cX7_takeFrom 28 = .ok (.getfield 42, 3) := by decide +kernel
theorem dX7_takeFrom_31 : decode cX7_takeFrom 31 = .ok (.aload_n 0, 1) := by decide +kernel
theorem dX7_takeFrom_32 : decode cX7_takeFrom 32 = .ok (.getfield 42, 3) := by decide +kernel
theorem dX7_takeFrom_35 : decode cX7_takeFrom 35 = .ok (.invokestatic 331, 3) := by decide +kernel
theorem dX7_takeFrom_38 : decode cX7_takeFrom 38 = .ok (.aload_n 0, 1) := by decide +kernel
theorem dX7_takeFrom_39 : decode cX7_takeFrom 39 = .ok (.aload_n 1, 1) := by decide +kernel
theorem dX7_takeFrom_40 : decode cX7_takeFrom 40 = .ok (.getfield 73, 3) := by decide +kernel
theorem dX7_takeFrom_43 : decode cX7_takeFrom 43 = .ok (.putfield 73, 3) := by decide +kernel
theorem dX7_takeFrom_46 : decode cX7_takeFrom 46 = .ok (.aload_n 1, 1) := by decide +kernel
theorem dX7_takeFrom_47 : decode cX7_takeFrom 47 = .ok (.getfield 45, 3) := by decide +kernel
theorem dX7_takeFrom_50 : decode cX7_takeFrom 50 = .ok (.aload_n 0, 1) := by decide +kernel
theorem dX7_takeFrom_51 : decode cX7_takeFrom 51 = .ok (.getfield 45, 3) := by decide +kernel
theorem dX7_takeFrom_54 : decode cX7_takeFrom 54 = .ok (.invokestatic 331, 3) := by decide +kernel
theorem dX7_takeFrom_57 : decode cX7_takeFrom 57 = .ok (.aload_n 0, 1) := by decide +kernel
theorem dX7_takeFrom_58 : decode cX7_takeFrom 58 = .ok (.aload_n 1, 1) := by decide +kernel
theorem dX7_takeFrom_59 : decode cX7_takeFrom 59 = .ok (.getfield 80, 3) := by decide +kernel
theorem dX7_takeFrom_62 : decode cX7_takeFrom 62 = .ok (.putfield 80, 3) := by decide +kernel
theorem dX7_takeFrom_65 : decode cX7_takeFrom 65 = .ok (.aload_n 1, 1) := by decide +kernel
theorem dX7_takeFrom_66 : decode cX7_takeFrom 66 = .ok (.getfield 48, 3) := by decide +kernel
theorem dX7_takeFrom_69 : decode cX7_takeFrom 69 = .ok (.aload_n 0, 1) := by decide +kernel
theorem dX7_takeFrom_70 : decode cX7_takeFrom 70 = .ok (.getfield 48, 3) := by decide +kernel
theorem dX7_takeFrom_73 : decode cX7_takeFrom 73 = .ok (.invokestatic 331, 3) := by decide +kernel
theorem dX7_takeFrom_76 : decode cX7_takeFrom 76 = .ok (.aload_n 1, 1) := by decide +kernel
theorem dX7_takeFrom_77 : decode cX7_takeFrom 77 = .ok (.getfield 51, 3) := by decide +kernel
theorem dX7_takeFrom_80 : decode cX7_takeFrom 80 = .ok (.aload_n 0, 1) := by decide +kernel
theorem dX7_takeFrom_81 : decode cX7_takeFrom 81 = .ok (.getfield 51, 3) := by decide +kernel
theorem dX7_takeFrom_84 : decode cX7_takeFrom 84 = .ok (.invokestatic 327, 3) := by decide +kernel
theorem dX7_takeFrom_87 : decode cX7_takeFrom 87 = .ok (.aload_n 1, 1) := by decide +kernel
theorem dX7_takeFrom_88 : decode cX7_takeFrom 88 = .ok (.getfield 54, 3) := by decide +kernel
theorem dX7_takeFrom_91 : decode cX7_takeFrom 91 = .ok (.aload_n 0, 1) := by decide +kernel
theorem dX7_takeFrom_92 : decode cX7_takeFrom 92 = .ok (.getfield 54, 3) := by decide +kernel
theorem dX7_takeFrom_95 : decode cX7_takeFrom 95 = .ok (.invokestatic 327, 3) := by decide +kernel
theorem dX7_takeFrom_98 : decode cX7_takeFrom 98 = .ok (.aload_n 0, 1) := by decide +kernel
theorem dX7_takeFrom_99 : decode cX7_takeFrom 99 = .ok (.aload_n 1, 1) := by decide +kernel
theorem dX7_takeFrom_100 : decode cX7_takeFrom 100 = .ok (.getfield 324, 3) := by decide +kernel
theorem dX7_takeFrom_103 : decode cX7_takeFrom 103 = .ok (.putfield 324, 3) := by decide +kernel
theorem dX7_takeFrom_106 : decode cX7_takeFrom 106 = .ok (.return_, 1) := by decide +kernel

