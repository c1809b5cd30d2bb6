theorem q_81 : Cond.classLink RL 7 RX6 ∈ oh_t := oh_of (i := 81) (by decide +kernel) rfl
theorem q_82 : Cond.instantiable RX6 9 ∈ oh_t := oh_of (i := 82) (by decide +kernel) rfl
theorem q_83 : Cond.methodLink RL 9 yX6_init ∈ oh_t := oh_of (i := 83) (by decide +kernel) rfl
theorem q_84 : Cond.instanceMethod yX6_init ∈ oh_t := oh_of (i := 84) (by decide +kernel) rfl
theorem q_85 : Cond.code yX6_init cX6_init 1 none ∈ oh_t := oh_of (i := 85) (by decide +kernel) rfl
theorem q_963 : Cond.classLink RL 10 RX7 ∈ oh_t := oh_of (i := 963) (by decide +kernel) rfl
theorem q_965 : Cond.methodLink RL 12 yX7_init ∈ oh_t := oh_of (i := 965) (by decide +kernel) rfl
theorem pdX6_init : yX6_init.cls ≠ "java/lang/invoke/MethodHandle" ∧ yX6_init.cls ≠ "java/lang/invoke/VarHandle" ∧ (parseMethodDescriptor yX6_init.desc).map (fun d => d.parameters.length) = some 0 := by decide +kernel
theorem dL_law_0 : decode cL_law 0 = .ok (.new 7, 3) := by decide +kernel
theorem dL_law_3 : decode cL_law 3 = .ok (.dup, 1) := by decide +kernel
theorem dL_law_4 : decode cL_law 4 = .ok (.invokespecial 9, 3) := by decide +kernel
theorem dL_law_7 : decode cL_law 7 = .ok (.astore_n 1, 1) := by decide +kernel
theorem dL_law_8 : decode cL_law 8 = .ok (.new 10, 3) := by decide +kernel
theorem dL_law_11 : decode cL_law 11 = .ok (.dup, 1) := by decide +kernel
theorem dL_law_12 : decode cL_law 12 = .ok (.invokespecial 12, 3) := by decide +kernel
theorem dL_law_15 : decode cL_law 15 = .ok (.astore_n 2, 1) := by decide +kernel
theorem dL_law_16 : decode cL_law 16 = .ok (.iconst 0, 1) := by decide +kernel
theorem dL_law_17 : decode cL_law 17 = .ok (.istore_n 3, 1) := by decide +kernel
theorem dL_law_27 : decode cL_law 27 = .ok (.aload_n 0, 1) := by decide +kernel
theorem dL_law_28 : decode cL_law 28 = .ok (.iload_n 3, 1) := by decide +kernel
theorem dL_law_29 : decode cL_law 29 = .ok (.iaload, 1) := by decide +kernel
theorem dL_law_30 : decode cL_law 30 = .ok (.bipush 63, 2) := by decide +kernel
theorem dL_law_32 : decode cL_law 32 = .ok (.iand, 1) := by decide +kernel
theorem dL_law_33 : decode cL_law 33 = .ok (.tableswitch 2014 0 42 #[187, 230, 303, 366, 400, 423, 456, 489, 564, 627, 670, 713, 746, 779, 838, 887, 920, 933, 946, 979, 1012, 1061, 1084, 1117, 1160, 1203, 1256, 1309, 1362, 1425, 1468, 1531, 1606, 1649, 1702, 1745, 1788, 1876, 1929, 1942, 1965, 1978, 1991], 187) := by decide +kernel
