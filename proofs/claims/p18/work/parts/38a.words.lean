theorem q_1431 : Cond.methodLink RX7 331 yX7_overAll ∈ oh_t := oh_of (i := 1431) (by decide +kernel) rfl
theorem q_1432 : Cond.static yX7_overAll ∈ oh_t := oh_of (i := 1432) (by decide +kernel) rfl
theorem q_1433 : Cond.code yX7_overAll cX7_overAll 3 none ∈ oh_t := oh_of (i := 1433) (by decide +kernel) rfl
theorem pdX7_overAll : yX7_overAll.cls ≠ "java/lang/invoke/MethodHandle" ∧ yX7_overAll.cls ≠ "java/lang/invoke/VarHandle" ∧ (parseMethodDescriptor yX7_overAll.desc).map (fun d => d.parameters.length) = some 2 := by decide +kernel

