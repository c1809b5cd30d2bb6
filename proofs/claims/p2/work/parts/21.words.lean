theorem q_20 : Cond.selects RX5 yX5_shorten yX5_shorten ∈ oh_t := oh_of (i := 20) (by decide +kernel) rfl
theorem q_795 : Cond.methodLink RX5 99 yX5_shorten ∈ oh_t := oh_of (i := 795) (by decide +kernel) rfl
theorem q_797 : Cond.instanceMethod yX5_shorten ∈ oh_t := oh_of (i := 797) (by decide +kernel) rfl
theorem q_798 : Cond.code yX5_shorten cX5_shorten 4 (some .boolean) ∈ oh_t := oh_of (i := 798) (by decide +kernel) rfl
theorem pdVX5_shorten : yX5_shorten.cls = RX5 ∧ yX5_shorten.cls ≠ "java/lang/invoke/MethodHandle" ∧ yX5_shorten.cls ≠ "java/lang/invoke/VarHandle" ∧ (parseMethodDescriptor yX5_shorten.desc).map (fun d => d.parameters.length) = some 1 := by decide +kernel
theorem dX5_spread_0 : decode cX5_spread 0 = .ok (.iconst 0, 1) := by decide +kernel
theorem dX5_spread_1 : decode cX5_spread 1 = .ok (.istore_n 2, 1) := by decide +kernel
theorem dX5_spread_2 : decode cX5_spread 2 = .ok (.iload_n 2, 1) := by decide +kernel
theorem dX5_spread_3 : decode cX5_spread 3 = .ok (.bipush 16, 2) := by decide +kernel
theorem dX5_spread_5 : decode cX5_spread 5 = .ok (.if_icmp .ge 17, 3) := by decide +kernel
theorem dX5_spread_8 : decode cX5_spread 8 = .ok (.aload_n 0, 1) := by decide +kernel
theorem dX5_spread_9 : decode cX5_spread 9 = .ok (.getfield 35, 3) := by decide +kernel
theorem dX5_spread_12 : decode cX5_spread 12 = .ok (.iload_n 2, 1) := by decide +kernel
theorem dX5_spread_13 : decode cX5_spread 13 = .ok (.ldc 89, 2) := by decide +kernel
theorem dX5_spread_15 : decode cX5_spread 15 = .ok (.iastore, 1) := by decide +kernel
theorem dX5_spread_16 : decode cX5_spread 16 = .ok (.iinc 2 1, 3) := by decide +kernel
theorem dX5_spread_19 : decode cX5_spread 19 = .ok (.goto (-17), 3) := by decide +kernel
theorem dX5_spread_22 : decode cX5_spread 22 = .ok (.aload_n 0, 1) := by decide +kernel
theorem dX5_spread_23 : decode cX5_spread 23 = .ok (.getfield 35, 3) := by decide +kernel
theorem dX5_spread_26 : decode cX5_spread 26 = .ok (.iload_n 1, 1) := by decide +kernel
theorem dX5_spread_27 : decode cX5_spread 27 = .ok (.iconst 0, 1) := by decide +kernel
theorem dX5_spread_28 : decode cX5_spread 28 = .ok (.iastore, 1) := by decide +kernel
theorem dX5_spread_29 : decode cX5_spread 29 = .ok (.iconst 1, 1) := by decide +kernel
theorem dX5_spread_30 : decode cX5_spread 30 = .ok (.istore_n 2, 1) := by decide +kernel
theorem dX5_spread_31 : decode cX5_spread 31 = .ok (.iconst 0, 1) := by decide +kernel
theorem dX5_spread_32 : decode cX5_spread 32 = .ok (.istore_n 3, 1) := by decide +kernel
theorem dX5_spread_33 : decode cX5_spread 33 = .ok (.iload_n 3, 1) := by decide +kernel
theorem dX5_spread_34 : decode cX5_spread 34 = .ok (.bipush 16, 2) := by decide +kernel
theorem dX5_spread_36 : decode cX5_spread 36 = .ok (.if_icmp .ge 60, 3) := by decide +kernel
theorem dX5_spread_39 : decode cX5_spread 39 = .ok (.iload_n 2, 1) := by decide +kernel
theorem dX5_spread_40 : decode cX5_spread 40 = .ok (.ifCond .eq 56, 3) := by decide +kernel
theorem dX5_spread_43 : decode cX5_spread 43 = .ok (.iconst 0, 1) := by decide +kernel
theorem dX5_spread_44 : decode cX5_spread 44 = .ok (.istore_n 2, 1) := by decide +kernel
theorem dX5_spread_45 : decode cX5_spread 45 = .ok (.iconst 0, 1) := by decide +kernel
theorem dX5_spread_46 : decode cX5_spread 46 = .ok (.istore 4, 2) := by decide +kernel
theorem dX5_spread_48 : decode cX5_spread 48 = .ok (.iload 4, 2) := by decide +kernel
theorem dX5_spread_50 : decode cX5_spread 50 = .ok (.aload_n 0, 1) := by decide +kernel
theorem dX5_spread_51 : decode cX5_spread 51 = .ok (.getfield 9, 3) := by decide +kernel
theorem dX5_spread_54 : decode cX5_spread 54 = .ok (.getfield 45, 3) := by decide +kernel
theorem dX5_spread_57 : decode cX5_spread 57 = .ok (.iconst 0, 1) := by decide +kernel
theorem dX5_spread_58 : decode cX5_spread 58 = .ok (.iaload, 1) := by decide +kernel
theorem dX5_spread_59 : decode cX5_spread 59 = .ok (.if_icmp .ge 31, 3) := by decide +kernel
theorem dX5_spread_62 : decode cX5_spread 62 = .ok (.aload_n 0, 1) := by decide +kernel
theorem dX5_spread_63 : decode cX5_spread 63 = .ok (.getfield 26, 3) := by decide +kernel
theorem dX5_spread_66 : decode cX5_spread 66 = .ok (.iload 4, 2) := by decide +kernel
theorem dX5_spread_68 : decode cX5_spread 68 = .ok (.iaload, 1) := by decide +kernel
theorem dX5_spread_69 : decode cX5_spread 69 = .ok (.iconst (-1), 1) := by decide +kernel
theorem dX5_spread_70 : decode cX5_spread 70 = .ok (.if_icmp .eq 14, 3) := by decide +kernel
theorem dX5_spread_73 : decode cX5_spread 73 = .ok (.aload_n 0, 1) := by decide +kernel
theorem dX5_spread_74 : decode cX5_spread 74 = .ok (.iload 4, 2) := by decide +kernel
theorem dX5_spread_76 : decode cX5_spread 76 = .ok (.invokevirtual 99, 3) := by decide +kernel
theorem dX5_spread_79 : decode cX5_spread 79 = .ok (.ifCond .eq 5, 3) := by decide +kernel
theorem dX5_spread_82 : decode cX5_spread 82 = .ok (.iconst 1, 1) := by decide +kernel
theorem dX5_spread_83 : decode cX5_spread 83 = .ok (.istore_n 2, 1) := by decide +kernel
theorem dX5_spread_84 : decode cX5_spread 84 = .ok (.iinc 4 1, 3) := by decide +kernel
theorem dX5_spread_87 : decode cX5_spread 87 = .ok (.goto (-39), 3) := by decide +kernel
theorem dX5_spread_90 : decode cX5_spread 90 = .ok (.iinc 3 1, 3) := by decide +kernel
theorem dX5_spread_93 : decode cX5_spread 93 = .ok (.goto (-60), 3) := by decide +kernel
theorem dX5_spread_96 : decode cX5_spread 96 = .ok (.return_, 1) := by decide +kernel
