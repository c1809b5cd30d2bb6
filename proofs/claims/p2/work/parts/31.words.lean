theorem q_202 : Cond.fieldLink RX3 18 "OneHeavyLoad$Shelves" "cells" "[J" ∈ oh_t := oh_of (i := 202) (by decide +kernel) rfl
theorem q_324 : Cond.methodLink RX3 40 yX3_asSort ∈ oh_t := oh_of (i := 324) (by decide +kernel) rfl
theorem q_325 : Cond.static yX3_asSort ∈ oh_t := oh_of (i := 325) (by decide +kernel) rfl
theorem q_326 : Cond.code yX3_asSort cX3_asSort 3 (some .long) ∈ oh_t := oh_of (i := 326) (by decide +kernel) rfl
theorem pdX3_asSort : yX3_asSort.cls ≠ "java/lang/invoke/MethodHandle" ∧ yX3_asSort.cls ≠ "java/lang/invoke/VarHandle" ∧ (parseMethodDescriptor yX3_asSort.desc).map (fun d => d.parameters.length) = some 2 := by decide +kernel
theorem dX3_elementAt_0 : decode cX3_elementAt 0 = .ok (.iload_n 2, 1) := by decide +kernel
theorem dX3_elementAt_1 : decode cX3_elementAt 1 = .ok (.iconst 0, 1) := by decide +kernel
theorem dX3_elementAt_2 : decode cX3_elementAt 2 = .ok (.aload_n 0, 1) := by decide +kernel
theorem dX3_elementAt_3 : decode cX3_elementAt 3 = .ok (.getfield 15, 3) := by decide +kernel
theorem dX3_elementAt_6 : decode cX3_elementAt 6 = .ok (.iload_n 1, 1) := by decide +kernel
theorem dX3_elementAt_7 : decode cX3_elementAt 7 = .ok (.iaload, 1) := by decide +kernel
theorem dX3_elementAt_8 : decode cX3_elementAt 8 = .ok (.iconst 1, 1) := by decide +kernel
theorem dX3_elementAt_9 : decode cX3_elementAt 9 = .ok (.isub, 1) := by decide +kernel
theorem dX3_elementAt_10 : decode cX3_elementAt 10 = .ok (.invokestatic 36, 3) := by decide +kernel
theorem dX3_elementAt_13 : decode cX3_elementAt 13 = .ok (.ifCond .eq 17, 3) := by decide +kernel
theorem dX3_elementAt_16 : decode cX3_elementAt 16 = .ok (.aload_n 0, 1) := by decide +kernel
theorem dX3_elementAt_17 : decode cX3_elementAt 17 = .ok (.getfield 18, 3) := by decide +kernel
theorem dX3_elementAt_20 : decode cX3_elementAt 20 = .ok (.iload_n 1, 1) := by decide +kernel
theorem dX3_elementAt_21 : decode cX3_elementAt 21 = .ok (.bipush 40, 2) := by decide +kernel
theorem dX3_elementAt_23 : decode cX3_elementAt 23 = .ok (.imul, 1) := by decide +kernel
theorem dX3_elementAt_24 : decode cX3_elementAt 24 = .ok (.iload_n 2, 1) := by decide +kernel
theorem dX3_elementAt_25 : decode cX3_elementAt 25 = .ok (.iadd, 1) := by decide +kernel
theorem dX3_elementAt_26 : decode cX3_elementAt 26 = .ok (.laload, 1) := by decide +kernel
theorem dX3_elementAt_27 : decode cX3_elementAt 27 = .ok (.goto 4, 3) := by decide +kernel
theorem dX3_elementAt_30 : decode cX3_elementAt 30 = .ok (.lconst 0, 1) := by decide +kernel
theorem dX3_elementAt_31 : decode cX3_elementAt 31 = .ok (.lreturn, 1) := by decide +kernel
theorem dX3_putElement_0 : decode cX3_putElement 0 = .ok (.aload_n 0, 1) := by decide +kernel
theorem dX3_putElement_1 : decode cX3_putElement 1 = .ok (.getfield 18, 3) := by decide +kernel
theorem dX3_putElement_4 : decode cX3_putElement 4 = .ok (.iload_n 1, 1) := by decide +kernel
theorem dX3_putElement_5 : decode cX3_putElement 5 = .ok (.bipush 40, 2) := by decide +kernel
theorem dX3_putElement_7 : decode cX3_putElement 7 = .ok (.imul, 1) := by decide +kernel
theorem dX3_putElement_8 : decode cX3_putElement 8 = .ok (.iload_n 2, 1) := by decide +kernel
theorem dX3_putElement_9 : decode cX3_putElement 9 = .ok (.iadd, 1) := by decide +kernel
theorem dX3_putElement_10 : decode cX3_putElement 10 = .ok (.aload_n 0, 1) := by decide +kernel
theorem dX3_putElement_11 : decode cX3_putElement 11 = .ok (.getfield 9, 3) := by decide +kernel
theorem dX3_putElement_14 : decode cX3_putElement 14 = .ok (.iload_n 1, 1) := by decide +kernel
theorem dX3_putElement_15 : decode cX3_putElement 15 = .ok (.iaload, 1) := by decide +kernel
theorem dX3_putElement_16 : decode cX3_putElement 16 = .ok (.lload_n 3, 1) := by decide +kernel
theorem dX3_putElement_17 : decode cX3_putElement 17 = .ok (.invokestatic 40, 3) := by decide +kernel
theorem dX3_putElement_20 : decode cX3_putElement 20 = .ok (.lastore, 1) := by decide +kernel
theorem dX3_putElement_21 : decode cX3_putElement 21 = .ok (.return_, 1) := by decide +kernel
