theorem q_300 : Cond.methodLink RX6 74 yX3_putRow ∈ oh_t := oh_of (i := 300) (by decide +kernel) rfl
theorem q_301 : Cond.instanceMethod yX3_putRow ∈ oh_t := oh_of (i := 301) (by decide +kernel) rfl
theorem q_302 : Cond.selects RX3 yX3_putRow yX3_putRow ∈ oh_t := oh_of (i := 302) (by decide +kernel) rfl
theorem q_303 : Cond.code yX3_putRow cX3_putRow 5 none ∈ oh_t := oh_of (i := 303) (by decide +kernel) rfl
theorem pdVX3_putRow : yX3_putRow.cls = RX3 ∧ yX3_putRow.cls ≠ "java/lang/invoke/MethodHandle" ∧ yX3_putRow.cls ≠ "java/lang/invoke/VarHandle" ∧ (parseMethodDescriptor yX3_putRow.desc).map (fun d => d.parameters.length) = some 3 := by decide +kernel
theorem dX3_putRow_0 : decode cX3_putRow 0 = .ok (.aload_n 0, 1) := by decide +kernel
theorem dX3_putRow_1 : decode cX3_putRow 1 = .ok (.getfield 9, 3) := by decide +kernel
theorem dX3_putRow_4 : decode cX3_putRow 4 = .ok (.iload_n 1, 1) := by decide +kernel
theorem dX3_putRow_5 : decode cX3_putRow 5 = .ok (.iload_n 2, 1) := by decide +kernel
theorem dX3_putRow_6 : decode cX3_putRow 6 = .ok (.iastore, 1) := by decide +kernel
theorem dX3_putRow_7 : decode cX3_putRow 7 = .ok (.aload_n 0, 1) := by decide +kernel
theorem dX3_putRow_8 : decode cX3_putRow 8 = .ok (.getfield 15, 3) := by decide +kernel
theorem dX3_putRow_11 : decode cX3_putRow 11 = .ok (.iload_n 1, 1) := by decide +kernel
theorem dX3_putRow_12 : decode cX3_putRow 12 = .ok (.iload_n 3, 1) := by decide +kernel
theorem dX3_putRow_13 : decode cX3_putRow 13 = .ok (.iastore, 1) := by decide +kernel
theorem dX3_putRow_14 : decode cX3_putRow 14 = .ok (.iconst 0, 1) := by decide +kernel
theorem dX3_putRow_15 : decode cX3_putRow 15 = .ok (.istore 4, 2) := by decide +kernel
theorem dX3_putRow_17 : decode cX3_putRow 17 = .ok (.iload 4, 2) := by decide +kernel
theorem dX3_putRow_19 : decode cX3_putRow 19 = .ok (.iload_n 3, 1) := by decide +kernel
theorem dX3_putRow_20 : decode cX3_putRow 20 = .ok (.if_icmp .ge 22, 3) := by decide +kernel
theorem dX3_putRow_23 : decode cX3_putRow 23 = .ok (.aload_n 0, 1) := by decide +kernel
theorem dX3_putRow_24 : decode cX3_putRow 24 = .ok (.getfield 18, 3) := by decide +kernel
theorem dX3_putRow_27 : decode cX3_putRow 27 = .ok (.iload_n 1, 1) := by decide +kernel
theorem dX3_putRow_28 : decode cX3_putRow 28 = .ok (.bipush 40, 2) := by decide +kernel
theorem dX3_putRow_30 : decode cX3_putRow 30 = .ok (.imul, 1) := by decide +kernel
theorem dX3_putRow_31 : decode cX3_putRow 31 = .ok (.iload 4, 2) := by decide +kernel
theorem dX3_putRow_33 : decode cX3_putRow 33 = .ok (.iadd, 1) := by decide +kernel
theorem dX3_putRow_34 : decode cX3_putRow 34 = .ok (.lconst 0, 1) := by decide +kernel
theorem dX3_putRow_35 : decode cX3_putRow 35 = .ok (.lastore, 1) := by decide +kernel
theorem dX3_putRow_36 : decode cX3_putRow 36 = .ok (.iinc 4 1, 3) := by decide +kernel
theorem dX3_putRow_39 : decode cX3_putRow 39 = .ok (.goto (-22), 3) := by decide +kernel
theorem dX3_putRow_42 : decode cX3_putRow 42 = .ok (.return_, 1) := by decide +kernel
theorem dX6_row_0 : decode cX6_row 0 = .ok (.iload_n 1, 1) := by decide +kernel
theorem dX6_row_1 : decode cX6_row 1 = .ok (.invokestatic 62, 3) := by decide +kernel
theorem dX6_row_4 : decode cX6_row 4 = .ok (.ifCond .eq 22, 3) := by decide +kernel
theorem dX6_row_7 : decode cX6_row 7 = .ok (.iload_n 2, 1) := by decide +kernel
theorem dX6_row_8 : decode cX6_row 8 = .ok (.iconst 0, 1) := by decide +kernel
theorem dX6_row_9 : decode cX6_row 9 = .ok (.iconst 4, 1) := by decide +kernel
theorem dX6_row_10 : decode cX6_row 10 = .ok (.invokestatic 66, 3) := by decide +kernel
theorem dX6_row_13 : decode cX6_row 13 = .ok (.ifCond .eq 13, 3) := by decide +kernel
theorem dX6_row_16 : decode cX6_row 16 = .ok (.iload_n 3, 1) := by decide +kernel
theorem dX6_row_17 : decode cX6_row 17 = .ok (.iconst 0, 1) := by decide +kernel
theorem dX6_row_18 : decode cX6_row 18 = .ok (.bipush 40, 2) := by decide +kernel
theorem dX6_row_20 : decode cX6_row 20 = .ok (.invokestatic 66, 3) := by decide +kernel
theorem dX6_row_23 : decode cX6_row 23 = .ok (.ifCond .ne 10, 3) := by decide +kernel
theorem dX6_row_26 : decode cX6_row 26 = .ok (.aload_n 0, 1) := by decide +kernel
theorem dX6_row_27 : decode cX6_row 27 = .ok (.bipush (-2), 2) := by decide +kernel
theorem dX6_row_29 : decode cX6_row 29 = .ok (.invokevirtual 70, 3) := by decide +kernel
theorem dX6_row_32 : decode cX6_row 32 = .ok (.ireturn, 1) := by decide +kernel
theorem dX6_row_33 : decode cX6_row 33 = .ok (.aload_n 0, 1) := by decide +kernel
theorem dX6_row_34 : decode cX6_row 34 = .ok (.getfield 35, 3) := by decide +kernel
theorem dX6_row_37 : decode cX6_row 37 = .ok (.iload_n 1, 1) := by decide +kernel
theorem dX6_row_38 : decode cX6_row 38 = .ok (.iload_n 2, 1) := by decide +kernel
theorem dX6_row_39 : decode cX6_row 39 = .ok (.iload_n 3, 1) := by decide +kernel
theorem dX6_row_40 : decode cX6_row 40 = .ok (.invokevirtual 74, 3) := by decide +kernel
theorem dX6_row_43 : decode cX6_row 43 = .ok (.iconst 1, 1) := by decide +kernel
theorem dX6_row_44 : decode cX6_row 44 = .ok (.ireturn, 1) := by decide +kernel
