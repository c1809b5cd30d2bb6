theorem q_371 : Cond.instanceMethod yX3_putBridge ∈ oh_t := oh_of (i := 371) (by decide +kernel) rfl
theorem q_372 : Cond.selects RX3 yX3_putBridge yX3_putBridge ∈ oh_t := oh_of (i := 372) (by decide +kernel) rfl
theorem q_373 : Cond.code yX3_putBridge cX3_putBridge 3 none ∈ oh_t := oh_of (i := 373) (by decide +kernel) rfl
theorem q_950 : Cond.methodLink RX3 32 yX3_putBridge ∈ oh_t := oh_of (i := 950) (by decide +kernel) rfl
theorem pdVX3_putBridge : yX3_putBridge.cls = RX3 ∧ yX3_putBridge.cls ≠ "java/lang/invoke/MethodHandle" ∧ yX3_putBridge.cls ≠ "java/lang/invoke/VarHandle" ∧ (parseMethodDescriptor yX3_putBridge.desc).map (fun d => d.parameters.length) = some 2 := by decide +kernel
theorem dX3_dropBridgesFrom_0 : decode cX3_dropBridgesFrom 0 = .ok (.iconst 0, 1) := by decide +kernel
theorem dX3_dropBridgesFrom_1 : decode cX3_dropBridgesFrom 1 = .ok (.istore_n 2, 1) := by decide +kernel
theorem dX3_dropBridgesFrom_2 : decode cX3_dropBridgesFrom 2 = .ok (.iload_n 2, 1) := by decide +kernel
theorem dX3_dropBridgesFrom_3 : decode cX3_dropBridgesFrom 3 = .ok (.bipush 8, 2) := by decide +kernel
theorem dX3_dropBridgesFrom_5 : decode cX3_dropBridgesFrom 5 = .ok (.if_icmp .ge 28, 3) := by decide +kernel
theorem dX3_dropBridgesFrom_8 : decode cX3_dropBridgesFrom 8 = .ok (.aload_n 0, 1) := by decide +kernel
theorem dX3_dropBridgesFrom_9 : decode cX3_dropBridgesFrom 9 = .ok (.getfield 9, 3) := by decide +kernel
theorem dX3_dropBridgesFrom_12 : decode cX3_dropBridgesFrom 12 = .ok (.iload_n 2, 1) := by decide +kernel
theorem dX3_dropBridgesFrom_13 : decode cX3_dropBridgesFrom 13 = .ok (.iaload, 1) := by decide +kernel
theorem dX3_dropBridgesFrom_14 : decode cX3_dropBridgesFrom 14 = .ok (.bipush 10, 2) := by decide +kernel
theorem dX3_dropBridgesFrom_16 : decode cX3_dropBridgesFrom 16 = .ok (.iload_n 1, 1) := by decide +kernel
theorem dX3_dropBridgesFrom_17 : decode cX3_dropBridgesFrom 17 = .ok (.iadd, 1) := by decide +kernel
theorem dX3_dropBridgesFrom_18 : decode cX3_dropBridgesFrom 18 = .ok (.if_icmp .lt 9, 3) := by decide +kernel
theorem dX3_dropBridgesFrom_21 : decode cX3_dropBridgesFrom 21 = .ok (.aload_n 0, 1) := by decide +kernel
theorem dX3_dropBridgesFrom_22 : decode cX3_dropBridgesFrom 22 = .ok (.iload_n 2, 1) := by decide +kernel
theorem dX3_dropBridgesFrom_23 : decode cX3_dropBridgesFrom 23 = .ok (.iconst (-1), 1) := by decide +kernel
theorem dX3_dropBridgesFrom_24 : decode cX3_dropBridgesFrom 24 = .ok (.invokevirtual 32, 3) := by decide +kernel
theorem dX3_dropBridgesFrom_27 : decode cX3_dropBridgesFrom 27 = .ok (.iinc 2 1, 3) := by decide +kernel
theorem dX3_dropBridgesFrom_30 : decode cX3_dropBridgesFrom 30 = .ok (.goto (-28), 3) := by decide +kernel
theorem dX3_dropBridgesFrom_33 : decode cX3_dropBridgesFrom 33 = .ok (.return_, 1) := by decide +kernel
