theorem q_81 : Cond.classLink RL 7 RX6 ∈ oh_t := oh_of (i := 81) (by decide +kernel) rfl
theorem q_83 : Cond.methodLink RL 9 yX6_init ∈ oh_t := oh_of (i := 83) (by decide +kernel) rfl
theorem q_84 : Cond.instanceMethod yX6_init ∈ oh_t := oh_of (i := 84) (by decide +kernel) rfl
theorem q_85 : Cond.code yX6_init cX6_init 1 none ∈ oh_t := oh_of (i := 85) (by decide +kernel) rfl
theorem q_963 : Cond.classLink RL 10 RX7 ∈ oh_t := oh_of (i := 963) (by decide +kernel) rfl
theorem q_965 : Cond.methodLink RL 12 yX7_init ∈ oh_t := oh_of (i := 965) (by decide +kernel) rfl
theorem pdX6_init : yX6_init.cls ≠ "java/lang/invoke/MethodHandle" ∧ yX6_init.cls ≠ "java/lang/invoke/VarHandle" ∧ (parseMethodDescriptor yX6_init.desc).map (fun d => d.parameters.length) = some 0 := by decide +kernel

