theorem q_768 : Cond.instanceMethod yX5_daysOf ∈ oh_t := oh_of (i := 768) (by decide +kernel) rfl
theorem q_769 : Cond.selects RX5 yX5_daysOf yX5_daysOf ∈ oh_t := oh_of (i := 769) (by decide +kernel) rfl
theorem q_770 : Cond.code yX5_daysOf cX5_daysOf 2 (some .int) ∈ oh_t := oh_of (i := 770) (by decide +kernel) rfl
theorem q_812 : Cond.methodLink RX5 93 yX5_daysOf ∈ oh_t := oh_of (i := 812) (by decide +kernel) rfl
theorem pdVX5_daysOf : yX5_daysOf.cls = RX5 ∧ yX5_daysOf.cls ≠ "java/lang/invoke/MethodHandle" ∧ yX5_daysOf.cls ≠ "java/lang/invoke/VarHandle" ∧ (parseMethodDescriptor yX5_daysOf.desc).map (fun d => d.parameters.length) = some 1 := by decide +kernel
theorem dX5_leastDays_0 : decode cX5_leastDays 0 = .ok (.aload_n 0, 1) := by decide +kernel
theorem dX5_leastDays_1 : decode cX5_leastDays 1 = .ok (.iload_n 1, 1) := by decide +kernel
theorem dX5_leastDays_2 : decode cX5_leastDays 2 = .ok (.iload_n 2, 1) := by decide +kernel
theorem dX5_leastDays_3 : decode cX5_leastDays 3 = .ok (.invokevirtual 78, 3) := by decide +kernel
theorem dX5_leastDays_6 : decode cX5_leastDays 6 = .ok (.iconst 0, 1) := by decide +kernel
theorem dX5_leastDays_7 : decode cX5_leastDays 7 = .ok (.istore 5, 2) := by decide +kernel
theorem dX5_leastDays_9 : decode cX5_leastDays 9 = .ok (.iload 5, 2) := by decide +kernel
theorem dX5_leastDays_11 : decode cX5_leastDays 11 = .ok (.aload_n 0, 1) := by decide +kernel
theorem dX5_leastDays_12 : decode cX5_leastDays 12 = .ok (.getfield 9, 3) := by decide +kernel
theorem dX5_leastDays_15 : decode cX5_leastDays 15 = .ok (.getfield 45, 3) := by decide +kernel
theorem dX5_leastDays_18 : decode cX5_leastDays 18 = .ok (.iconst 0, 1) := by decide +kernel
theorem dX5_leastDays_19 : decode cX5_leastDays 19 = .ok (.iaload, 1) := by decide +kernel
theorem dX5_leastDays_20 : decode cX5_leastDays 20 = .ok (.if_icmp .ge 22, 3) := by decide +kernel
theorem dX5_leastDays_23 : decode cX5_leastDays 23 = .ok (.aload_n 0, 1) := by decide +kernel
theorem dX5_leastDays_24 : decode cX5_leastDays 24 = .ok (.getfield 32, 3) := by decide +kernel
theorem dX5_leastDays_27 : decode cX5_leastDays 27 = .ok (.iload 5, 2) := by decide +kernel
theorem dX5_leastDays_29 : decode cX5_leastDays 29 = .ok (.aload_n 0, 1) := by decide +kernel
theorem dX5_leastDays_30 : decode cX5_leastDays 30 = .ok (.iload 5, 2) := by decide +kernel
theorem dX5_leastDays_32 : decode cX5_leastDays 32 = .ok (.invokevirtual 93, 3) := by decide +kernel
theorem dX5_leastDays_35 : decode cX5_leastDays 35 = .ok (.iastore, 1) := by decide +kernel
theorem dX5_leastDays_36 : decode cX5_leastDays 36 = .ok (.iinc 5 1, 3) := by decide +kernel
theorem dX5_leastDays_39 : decode cX5_leastDays 39 = .ok (.goto (-30), 3) := by decide +kernel
theorem dX5_leastDays_42 : decode cX5_leastDays 42 = .ok (.aload_n 0, 1) := by decide +kernel
theorem dX5_leastDays_43 : decode cX5_leastDays 43 = .ok (.iload_n 3, 1) := by decide +kernel
theorem dX5_leastDays_44 : decode cX5_leastDays 44 = .ok (.invokevirtual 86, 3) := by decide +kernel
theorem dX5_leastDays_47 : decode cX5_leastDays 47 = .ok (.aload_n 0, 1) := by decide +kernel
theorem dX5_leastDays_48 : decode cX5_leastDays 48 = .ok (.getfield 35, 3) := by decide +kernel
theorem dX5_leastDays_51 : decode cX5_leastDays 51 = .ok (.iload 4, 2) := by decide +kernel
theorem dX5_leastDays_53 : decode cX5_leastDays 53 = .ok (.iaload, 1) := by decide +kernel
theorem dX5_leastDays_54 : decode cX5_leastDays 54 = .ok (.ireturn, 1) := by decide +kernel
theorem dX5_reached_0 : decode cX5_reached 0 = .ok (.aload_n 0, 1) := by decide +kernel
theorem dX5_reached_1 : decode cX5_reached 1 = .ok (.iload_n 1, 1) := by decide +kernel
theorem dX5_reached_2 : decode cX5_reached 2 = .ok (.iload_n 2, 1) := by decide +kernel
theorem dX5_reached_3 : decode cX5_reached 3 = .ok (.invokevirtual 78, 3) := by decide +kernel
theorem dX5_reached_6 : decode cX5_reached 6 = .ok (.aload_n 0, 1) := by decide +kernel
theorem dX5_reached_7 : decode cX5_reached 7 = .ok (.iconst 1, 1) := by decide +kernel
theorem dX5_reached_8 : decode cX5_reached 8 = .ok (.invokevirtual 82, 3) := by decide +kernel
theorem dX5_reached_11 : decode cX5_reached 11 = .ok (.aload_n 0, 1) := by decide +kernel
theorem dX5_reached_12 : decode cX5_reached 12 = .ok (.iload_n 3, 1) := by decide +kernel
theorem dX5_reached_13 : decode cX5_reached 13 = .ok (.invokevirtual 86, 3) := by decide +kernel
theorem dX5_reached_16 : decode cX5_reached 16 = .ok (.iconst 0, 1) := by decide +kernel
theorem dX5_reached_17 : decode cX5_reached 17 = .ok (.istore 4, 2) := by decide +kernel
theorem dX5_reached_19 : decode cX5_reached 19 = .ok (.iconst 0, 1) := by decide +kernel
theorem dX5_reached_20 : decode cX5_reached 20 = .ok (.istore 5, 2) := by decide +kernel
theorem dX5_reached_22 : decode cX5_reached 22 = .ok (.iload 5, 2) := by decide +kernel
theorem dX5_reached_24 : decode cX5_reached 24 = .ok (.bipush 16, 2) := by decide +kernel
theorem dX5_reached_26 : decode cX5_reached 26 = .ok (.if_icmp .ge 30, 3) := by decide +kernel
theorem dX5_reached_29 : decode cX5_reached 29 = .ok (.aload_n 0, 1) := by decide +kernel
theorem dX5_reached_30 : decode cX5_reached 30 = .ok (.getfield 35, 3) := by decide +kernel
theorem dX5_reached_33 : decode cX5_reached 33 = .ok (.iload 5, 2) := by decide +kernel
theorem dX5_reached_35 : decode cX5_reached 35 = .ok (.iaload, 1) := by decide +kernel
theorem dX5_reached_36 : decode cX5_reached 36 = .ok (.ldc 89, 2) := by decide +kernel
theorem dX5_reached_38 : decode cX5_reached 38 = .ok (.if_icmp .eq 12, 3) := by decide +kernel
theorem dX5_reached_41 : decode cX5_reached 41 = .ok (.iload 4, 2) := by decide +kernel
theorem dX5_reached_43 : decode cX5_reached 43 = .ok (.iconst 1, 1) := by decide +kernel
theorem dX5_reached_44 : decode cX5_reached 44 = .ok (.iload 5, 2) := by decide +kernel
theorem dX5_reached_46 : decode cX5_reached 46 = .ok (.ishl, 1) := by decide +kernel
theorem dX5_reached_47 : decode cX5_reached 47 = .ok (.ior, 1) := by decide +kernel
theorem dX5_reached_48 : decode cX5_reached 48 = .ok (.istore 4, 2) := by decide +kernel
theorem dX5_reached_50 : decode cX5_reached 50 = .ok (.iinc 5 1, 3) := by decide +kernel
theorem dX5_reached_53 : decode cX5_reached 53 = .ok (.goto (-31), 3) := by decide +kernel
theorem dX5_reached_56 : decode cX5_reached 56 = .ok (.iload 4, 2) := by decide +kernel
theorem dX5_reached_58 : decode cX5_reached 58 = .ok (.ireturn, 1) := by decide +kernel
