theorem q_25 : Cond.selects RX5 yX5_otherEnd yX5_otherEnd ∈ oh_t := oh_of (i := 25) (by decide +kernel) rfl
theorem q_846 : Cond.methodLink RX5 103 yX5_otherEnd ∈ oh_t := oh_of (i := 846) (by decide +kernel) rfl
theorem q_848 : Cond.instanceMethod yX5_otherEnd ∈ oh_t := oh_of (i := 848) (by decide +kernel) rfl
theorem q_849 : Cond.code yX5_otherEnd cX5_otherEnd 3 (some .int) ∈ oh_t := oh_of (i := 849) (by decide +kernel) rfl
theorem pdVX5_otherEnd : yX5_otherEnd.cls = RX5 ∧ yX5_otherEnd.cls ≠ "java/lang/invoke/MethodHandle" ∧ yX5_otherEnd.cls ≠ "java/lang/invoke/VarHandle" ∧ (parseMethodDescriptor yX5_otherEnd.desc).map (fun d => d.parameters.length) = some 2 := by decide +kernel
theorem dX5_firstRoad_0 : decode cX5_firstRoad 0 = .ok (.aload_n 0, 1) := by decide +kernel
theorem dX5_firstRoad_1 : decode cX5_firstRoad 1 = .ok (.iload_n 1, 1) := by decide +kernel
theorem dX5_firstRoad_2 : decode cX5_firstRoad 2 = .ok (.iload_n 2, 1) := by decide +kernel
theorem dX5_firstRoad_3 : decode cX5_firstRoad 3 = .ok (.invokevirtual 78, 3) := by decide +kernel
theorem dX5_firstRoad_6 : decode cX5_firstRoad 6 = .ok (.aload_n 0, 1) := by decide +kernel
theorem dX5_firstRoad_7 : decode cX5_firstRoad 7 = .ok (.iconst 1, 1) := by decide +kernel
theorem dX5_firstRoad_8 : decode cX5_firstRoad 8 = .ok (.invokevirtual 82, 3) := by decide +kernel
theorem dX5_firstRoad_11 : decode cX5_firstRoad 11 = .ok (.aload_n 0, 1) := by decide +kernel
theorem dX5_firstRoad_12 : decode cX5_firstRoad 12 = .ok (.iload 4, 2) := by decide +kernel
theorem dX5_firstRoad_14 : decode cX5_firstRoad 14 = .ok (.invokevirtual 86, 3) := by decide +kernel
theorem dX5_firstRoad_17 : decode cX5_firstRoad 17 = .ok (.iconst 0, 1) := by decide +kernel
theorem dX5_firstRoad_18 : decode cX5_firstRoad 18 = .ok (.istore 5, 2) := by decide +kernel
theorem dX5_firstRoad_20 : decode cX5_firstRoad 20 = .ok (.iload 5, 2) := by decide +kernel
theorem dX5_firstRoad_22 : decode cX5_firstRoad 22 = .ok (.aload_n 0, 1) := by decide +kernel
theorem dX5_firstRoad_23 : decode cX5_firstRoad 23 = .ok (.getfield 9, 3) := by decide +kernel
theorem dX5_firstRoad_26 : decode cX5_firstRoad 26 = .ok (.getfield 45, 3) := by decide +kernel
theorem dX5_firstRoad_29 : decode cX5_firstRoad 29 = .ok (.iconst 0, 1) := by decide +kernel
theorem dX5_firstRoad_30 : decode cX5_firstRoad 30 = .ok (.iaload, 1) := by decide +kernel
theorem dX5_firstRoad_31 : decode cX5_firstRoad 31 = .ok (.if_icmp .ge 74, 3) := by decide +kernel
theorem dX5_firstRoad_34 : decode cX5_firstRoad 34 = .ok (.aload_n 0, 1) := by decide +kernel
theorem dX5_firstRoad_35 : decode cX5_firstRoad 35 = .ok (.iload 5, 2) := by decide +kernel
theorem dX5_firstRoad_37 : decode cX5_firstRoad 37 = .ok (.iload_n 3, 1) := by decide +kernel
theorem dX5_firstRoad_38 : decode cX5_firstRoad 38 = .ok (.invokevirtual 103, 3) := by decide +kernel
theorem dX5_firstRoad_41 : decode cX5_firstRoad 41 = .ok (.istore 6, 2) := by decide +kernel
theorem dX5_firstRoad_43 : decode cX5_firstRoad 43 = .ok (.aload_n 0, 1) := by decide +kernel
theorem dX5_firstRoad_44 : decode cX5_firstRoad 44 = .ok (.getfield 26, 3) := by decide +kernel
theorem dX5_firstRoad_47 : decode cX5_firstRoad 47 = .ok (.iload 5, 2) := by decide +kernel
theorem dX5_firstRoad_49 : decode cX5_firstRoad 49 = .ok (.iaload, 1) := by decide +kernel
theorem dX5_firstRoad_50 : decode cX5_firstRoad 50 = .ok (.iconst (-1), 1) := by decide +kernel
theorem dX5_firstRoad_51 : decode cX5_firstRoad 51 = .ok (.if_icmp .eq 48, 3) := by decide +kernel
theorem dX5_firstRoad_54 : decode cX5_firstRoad 54 = .ok (.iload 6, 2) := by decide +kernel
theorem dX5_firstRoad_56 : decode cX5_firstRoad 56 = .ok (.iconst (-1), 1) := by decide +kernel
theorem dX5_firstRoad_57 : decode cX5_firstRoad 57 = .ok (.if_icmp .eq 42, 3) := by decide +kernel
theorem dX5_firstRoad_60 : decode cX5_firstRoad 60 = .ok (.aload_n 0, 1) := by decide +kernel
theorem dX5_firstRoad_61 : decode cX5_firstRoad 61 = .ok (.getfield 35, 3) := by decide +kernel
theorem dX5_firstRoad_64 : decode cX5_firstRoad 64 = .ok (.iload 6, 2) := by decide +kernel
theorem dX5_firstRoad_66 : decode cX5_firstRoad 66 = .ok (.iaload, 1) := by decide +kernel
theorem dX5_firstRoad_67 : decode cX5_firstRoad 67 = .ok (.ldc 89, 2) := by decide +kernel
theorem dX5_firstRoad_69 : decode cX5_firstRoad 69 = .ok (.if_icmp .eq 30, 3) := by decide +kernel
theorem dX5_firstRoad_72 : decode cX5_firstRoad 72 = .ok (.aload_n 0, 1) := by decide +kernel
theorem dX5_firstRoad_73 : decode cX5_firstRoad 73 = .ok (.getfield 35, 3) := by decide +kernel
theorem dX5_firstRoad_76 : decode cX5_firstRoad 76 = .ok (.iload 6, 2) := by decide +kernel
theorem dX5_firstRoad_78 : decode cX5_firstRoad 78 = .ok (.iaload, 1) := by decide +kernel
theorem dX5_firstRoad_79 : decode cX5_firstRoad 79 = .ok (.aload_n 0, 1) := by decide +kernel
theorem dX5_firstRoad_80 : decode cX5_firstRoad 80 = .ok (.getfield 32, 3) := by decide +kernel
theorem dX5_firstRoad_83 : decode cX5_firstRoad 83 = .ok (.iload 5, 2) := by decide +kernel
theorem dX5_firstRoad_85 : decode cX5_firstRoad 85 = .ok (.iaload, 1) := by decide +kernel
theorem dX5_firstRoad_86 : decode cX5_firstRoad 86 = .ok (.iadd, 1) := by decide +kernel
theorem dX5_firstRoad_87 : decode cX5_firstRoad 87 = .ok (.aload_n 0, 1) := by decide +kernel
theorem dX5_firstRoad_88 : decode cX5_firstRoad 88 = .ok (.getfield 35, 3) := by decide +kernel
theorem dX5_firstRoad_91 : decode cX5_firstRoad 91 = .ok (.iload_n 3, 1) := by decide +kernel
theorem dX5_firstRoad_92 : decode cX5_firstRoad 92 = .ok (.iaload, 1) := by decide +kernel
theorem dX5_firstRoad_93 : decode cX5_firstRoad 93 = .ok (.if_icmp .ne 6, 3) := by decide +kernel
theorem dX5_firstRoad_96 : decode cX5_firstRoad 96 = .ok (.iload 5, 2) := by decide +kernel
theorem dX5_firstRoad_98 : decode cX5_firstRoad 98 = .ok (.ireturn, 1) := by decide +kernel
theorem dX5_firstRoad_99 : decode cX5_firstRoad 99 = .ok (.iinc 5 1, 3) := by decide +kernel
theorem dX5_firstRoad_102 : decode cX5_firstRoad 102 = .ok (.goto (-82), 3) := by decide +kernel
theorem dX5_firstRoad_105 : decode cX5_firstRoad 105 = .ok (.iconst (-1), 1) := by decide +kernel
theorem dX5_firstRoad_106 : decode cX5_firstRoad 106 = .ok (.ireturn, 1) := by decide +kernel
