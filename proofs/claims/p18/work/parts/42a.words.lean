theorem q_964 : Cond.instantiable RX7 29 ∈ oh_t := oh_of (i := 964) (by decide +kernel) rfl
theorem q_966 : Cond.instanceMethod yX7_init ∈ oh_t := oh_of (i := 966) (by decide +kernel) rfl
theorem q_967 : Cond.code yX7_init cX7_init 1 none ∈ oh_t := oh_of (i := 967) (by decide +kernel) rfl
theorem q_1425 : Cond.classLink RX7 8 RX7 ∈ oh_t := oh_of (i := 1425) (by decide +kernel) rfl
theorem q_1426 : Cond.methodLink RX7 339 yX7_init ∈ oh_t := oh_of (i := 1426) (by decide +kernel) rfl
theorem pdX7_init : yX7_init.cls ≠ "java/lang/invoke/MethodHandle" ∧ yX7_init.cls ≠ "java/lang/invoke/VarHandle" ∧ (parseMethodDescriptor yX7_init.desc).map (fun d => d.parameters.length) = some 0 := by decide +kernel

