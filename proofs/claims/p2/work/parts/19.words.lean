theorem q_173 : Cond.fieldLink RX5 32 "OneHeavyLoad$Ways" "price" "[I" ∈ oh_t := oh_of (i := 173) (by decide +kernel) rfl
theorem q_174 : Cond.fieldLink RX5 35 "OneHeavyLoad$Ways" "far" "[I" ∈ oh_t := oh_of (i := 174) (by decide +kernel) rfl
theorem q_763 : Cond.instanceMethod yX5_coinOf ∈ oh_t := oh_of (i := 763) (by decide +kernel) rfl
theorem q_764 : Cond.selects RX5 yX5_coinOf yX5_coinOf ∈ oh_t := oh_of (i := 764) (by decide +kernel) rfl
theorem q_765 : Cond.code yX5_coinOf cX5_coinOf 3 (some .int) ∈ oh_t := oh_of (i := 765) (by decide +kernel) rfl
theorem q_789 : Cond.methodLink RX5 96 yX5_coinOf ∈ oh_t := oh_of (i := 789) (by decide +kernel) rfl
theorem q_794 : Cond.constant RX5 89 1000000000 ∈ oh_t := oh_of (i := 794) (by decide +kernel) rfl
theorem pdVX5_coinOf : yX5_coinOf.cls = RX5 ∧ yX5_coinOf.cls ≠ "java/lang/invoke/MethodHandle" ∧ yX5_coinOf.cls ≠ "java/lang/invoke/VarHandle" ∧ (parseMethodDescriptor yX5_coinOf.desc).map (fun d => d.parameters.length) = some 2 := by decide +kernel
theorem dX5_priceByCoin_0 : decode cX5_priceByCoin 0 = .ok (.iconst 0, 1) := by decide +kernel
theorem dX5_priceByCoin_1 : decode cX5_priceByCoin 1 = .ok (.istore_n 2, 1) := by decide +kernel
theorem dX5_priceByCoin_2 : decode cX5_priceByCoin 2 = .ok (.iload_n 2, 1) := by decide +kernel
theorem dX5_priceByCoin_3 : decode cX5_priceByCoin 3 = .ok (.aload_n 0, 1) := by decide +kernel
theorem dX5_priceByCoin_4 : decode cX5_priceByCoin 4 = .ok (.getfield 9, 3) := by decide +kernel
theorem dX5_priceByCoin_7 : decode cX5_priceByCoin 7 = .ok (.getfield 45, 3) := by decide +kernel
theorem dX5_priceByCoin_10 : decode cX5_priceByCoin 10 = .ok (.iconst 0, 1) := by decide +kernel
theorem dX5_priceByCoin_11 : decode cX5_priceByCoin 11 = .ok (.iaload, 1) := by decide +kernel
theorem dX5_priceByCoin_12 : decode cX5_priceByCoin 12 = .ok (.if_icmp .ge 21, 3) := by decide +kernel
theorem dX5_priceByCoin_15 : decode cX5_priceByCoin 15 = .ok (.aload_n 0, 1) := by decide +kernel
theorem dX5_priceByCoin_16 : decode cX5_priceByCoin 16 = .ok (.getfield 32, 3) := by decide +kernel
theorem dX5_priceByCoin_19 : decode cX5_priceByCoin 19 = .ok (.iload_n 2, 1) := by decide +kernel
theorem dX5_priceByCoin_20 : decode cX5_priceByCoin 20 = .ok (.aload_n 0, 1) := by decide +kernel
theorem dX5_priceByCoin_21 : decode cX5_priceByCoin 21 = .ok (.iload_n 2, 1) := by decide +kernel
theorem dX5_priceByCoin_22 : decode cX5_priceByCoin 22 = .ok (.iload_n 1, 1) := by decide +kernel
theorem dX5_priceByCoin_23 : decode cX5_priceByCoin 23 = .ok (.invokevirtual 96, 3) := by decide +kernel
theorem dX5_priceByCoin_26 : decode cX5_priceByCoin 26 = .ok (.iastore, 1) := by decide +kernel
theorem dX5_priceByCoin_27 : decode cX5_priceByCoin 27 = .ok (.iinc 2 1, 3) := by decide +kernel
theorem dX5_priceByCoin_30 : decode cX5_priceByCoin 30 = .ok (.goto (-28), 3) := by decide +kernel
theorem dX5_priceByCoin_33 : decode cX5_priceByCoin 33 = .ok (.return_, 1) := by decide +kernel
theorem dX5_shorten_0 : decode cX5_shorten 0 = .ok (.aload_n 0, 1) := by decide +kernel
theorem dX5_shorten_1 : decode cX5_shorten 1 = .ok (.getfield 9, 3) := by decide +kernel
theorem dX5_shorten_4 : decode cX5_shorten 4 = .ok (.iload_n 1, 1) := by decide +kernel
theorem dX5_shorten_5 : decode cX5_shorten 5 = .ok (.iconst 0, 1) := by decide +kernel
theorem dX5_shorten_6 : decode cX5_shorten 6 = .ok (.invokevirtual 50, 3) := by decide +kernel
theorem dX5_shorten_9 : decode cX5_shorten 9 = .ok (.istore_n 2, 1) := by decide +kernel
theorem dX5_shorten_10 : decode cX5_shorten 10 = .ok (.aload_n 0, 1) := by decide +kernel
theorem dX5_shorten_11 : decode cX5_shorten 11 = .ok (.getfield 9, 3) := by decide +kernel
theorem dX5_shorten_14 : decode cX5_shorten 14 = .ok (.iload_n 1, 1) := by decide +kernel
theorem dX5_shorten_15 : decode cX5_shorten 15 = .ok (.iconst 1, 1) := by decide +kernel
theorem dX5_shorten_16 : decode cX5_shorten 16 = .ok (.invokevirtual 50, 3) := by decide +kernel
theorem dX5_shorten_19 : decode cX5_shorten 19 = .ok (.istore_n 3, 1) := by decide +kernel
theorem dX5_shorten_20 : decode cX5_shorten 20 = .ok (.aload_n 0, 1) := by decide +kernel
theorem dX5_shorten_21 : decode cX5_shorten 21 = .ok (.getfield 35, 3) := by decide +kernel
theorem dX5_shorten_24 : decode cX5_shorten 24 = .ok (.iload_n 2, 1) := by decide +kernel
theorem dX5_shorten_25 : decode cX5_shorten 25 = .ok (.iaload, 1) := by decide +kernel
theorem dX5_shorten_26 : decode cX5_shorten 26 = .ok (.ldc 89, 2) := by decide +kernel
theorem dX5_shorten_28 : decode cX5_shorten 28 = .ok (.if_icmp .eq 46, 3) := by decide +kernel
theorem dX5_shorten_31 : decode cX5_shorten 31 = .ok (.aload_n 0, 1) := by decide +kernel
theorem dX5_shorten_32 : decode cX5_shorten 32 = .ok (.getfield 35, 3) := by decide +kernel
theorem dX5_shorten_35 : decode cX5_shorten 35 = .ok (.iload_n 2, 1) := by decide +kernel
theorem dX5_shorten_36 : decode cX5_shorten 36 = .ok (.iaload, 1) := by decide +kernel
theorem dX5_shorten_37 : decode cX5_shorten 37 = .ok (.aload_n 0, 1) := by decide +kernel
theorem dX5_shorten_38 : decode cX5_shorten 38 = .ok (.getfield 32, 3) := by decide +kernel
theorem dX5_shorten_41 : decode cX5_shorten 41 = .ok (.iload_n 1, 1) := by decide +kernel
theorem dX5_shorten_42 : decode cX5_shorten 42 = .ok (.iaload, 1) := by decide +kernel
theorem dX5_shorten_43 : decode cX5_shorten 43 = .ok (.iadd, 1) := by decide +kernel
theorem dX5_shorten_44 : decode cX5_shorten 44 = .ok (.aload_n 0, 1) := by decide +kernel
theorem dX5_shorten_45 : decode cX5_shorten 45 = .ok (.getfield 35, 3) := by decide +kernel
theorem dX5_shorten_48 : decode cX5_shorten 48 = .ok (.iload_n 3, 1) := by decide +kernel
theorem dX5_shorten_49 : decode cX5_shorten 49 = .ok (.iaload, 1) := by decide +kernel
theorem dX5_shorten_50 : decode cX5_shorten 50 = .ok (.if_icmp .ge 24, 3) := by decide +kernel
theorem dX5_shorten_53 : decode cX5_shorten 53 = .ok (.aload_n 0, 1) := by decide +kernel
theorem dX5_shorten_54 : decode cX5_shorten 54 = .ok (.getfield 35, 3) := by decide +kernel
theorem dX5_shorten_57 : decode cX5_shorten 57 = .ok (.iload_n 3, 1) := by decide +kernel
theorem dX5_shorten_58 : decode cX5_shorten 58 = .ok (.aload_n 0, 1) := by decide +kernel
theorem dX5_shorten_59 : decode cX5_shorten 59 = .ok (.getfield 35, 3) := by decide +kernel
theorem dX5_shorten_62 : decode cX5_shorten 62 = .ok (.iload_n 2, 1) := by decide +kernel
theorem dX5_shorten_63 : decode cX5_shorten 63 = .ok (.iaload, 1) := by decide +kernel
theorem dX5_shorten_64 : decode cX5_shorten 64 = .ok (.aload_n 0, 1) := by decide +kernel
theorem dX5_shorten_65 : decode cX5_shorten 65 = .ok (.getfield 32, 3) := by decide +kernel
theorem dX5_shorten_68 : decode cX5_shorten 68 = .ok (.iload_n 1, 1) := by decide +kernel
theorem dX5_shorten_69 : decode cX5_shorten 69 = .ok (.iaload, 1) := by decide +kernel
theorem dX5_shorten_70 : decode cX5_shorten 70 = .ok (.iadd, 1) := by decide +kernel
theorem dX5_shorten_71 : decode cX5_shorten 71 = .ok (.iastore, 1) := by decide +kernel
theorem dX5_shorten_72 : decode cX5_shorten 72 = .ok (.iconst 1, 1) := by decide +kernel
theorem dX5_shorten_73 : decode cX5_shorten 73 = .ok (.ireturn, 1) := by decide +kernel
theorem dX5_shorten_74 : decode cX5_shorten 74 = .ok (.aload_n 0, 1) := by decide +kernel
theorem dX5_shorten_75 : decode cX5_shorten 75 = .ok (.getfield 35, 3) := by decide +kernel
theorem dX5_shorten_78 : decode cX5_shorten 78 = .ok (.iload_n 3, 1) := by decide +kernel
theorem dX5_shorten_79 : decode cX5_shorten 79 = .ok (.iaload, 1) := by decide +kernel
theorem dX5_shorten_80 : decode cX5_shorten 80 = .ok (.ldc 89, 2) := by decide +kernel
theorem dX5_shorten_82 : decode cX5_shorten 82 = .ok (.if_icmp .eq 46, 3) := by decide +kernel
theorem dX5_shorten_85 : decode cX5_shorten 85 = .ok (.aload_n 0, 1) := by decide +kernel
theorem dX5_shorten_86 : decode cX5_shorten 86 = .ok (.getfield 35, 3) := by decide +kernel
theorem dX5_shorten_89 : decode cX5_shorten 89 = .ok (.iload_n 3, 1) := by decide +kernel
theorem dX5_shorten_90 : decode cX5_shorten 90 = .ok (.iaload, 1) := by decide +kernel
theorem dX5_shorten_91 : decode cX5_shorten 91 = .ok (.aload_n 0, 1) := by decide +kernel
theorem dX5_shorten_92 : decode cX5_shorten 92 = .ok (.getfield 32, 3) := by decide +kernel
theorem dX5_shorten_95 : decode cX5_shorten 95 = .ok (.iload_n 1, 1) := by decide +kernel
theorem dX5_shorten_96 : decode cX5_shorten 96 = .ok (.iaload, 1) := by decide +kernel
theorem dX5_shorten_97 : decode cX5_shorten 97 = .ok (.iadd, 1) := by decide +kernel
theorem dX5_shorten_98 : decode cX5_shorten 98 = .ok (.aload_n 0, 1) := by decide +kernel
theorem dX5_shorten_99 : decode cX5_shorten 99 = .ok (.getfield 35, 3) := by decide +kernel
theorem dX5_shorten_102 : decode cX5_shorten 102 = .ok (.iload_n 2, 1) := by decide +kernel
theorem dX5_shorten_103 : decode cX5_shorten 103 = .ok (.iaload, 1) := by decide +kernel
theorem dX5_shorten_104 : decode cX5_shorten 104 = .ok (.if_icmp .ge 24, 3) := by decide +kernel
theorem dX5_shorten_107 : decode cX5_shorten 107 = .ok (.aload_n 0, 1) := by decide +kernel
theorem dX5_shorten_108 : decode cX5_shorten 108 = .ok (.getfield 35, 3) := by decide +kernel
theorem dX5_shorten_111 : decode cX5_shorten 111 = .ok (.iload_n 2, 1) := by decide +kernel
theorem dX5_shorten_112 : decode cX5_shorten 112 = .ok (.aload_n 0, 1) := by decide +kernel
theorem dX5_shorten_113 : decode cX5_shorten 113 = .ok (.getfield 35, 3) := by decide +kernel
theorem dX5_shorten_116 : decode cX5_shorten 116 = .ok (.iload_n 3, 1) := by decide +kernel
theorem dX5_shorten_117 : decode cX5_shorten 117 = .ok (.iaload, 1) := by decide +kernel
theorem dX5_shorten_118 : decode cX5_shorten 118 = .ok (.aload_n 0, 1) := by decide +kernel
theorem dX5_shorten_119 : decode cX5_shorten 119 = .ok (.getfield 32, 3) := by decide +kernel
theorem dX5_shorten_122 : decode cX5_shorten 122 = .ok (.iload_n 1, 1) := by decide +kernel
theorem dX5_shorten_123 : decode cX5_shorten 123 = .ok (.iaload, 1) := by decide +kernel
theorem dX5_shorten_124 : decode cX5_shorten 124 = .ok (.iadd, 1) := by decide +kernel
theorem dX5_shorten_125 : decode cX5_shorten 125 = .ok (.iastore, 1) := by decide +kernel
theorem dX5_shorten_126 : decode cX5_shorten 126 = .ok (.iconst 1, 1) := by decide +kernel
theorem dX5_shorten_127 : decode cX5_shorten 127 = .ok (.ireturn, 1) := by decide +kernel
theorem dX5_shorten_128 : decode cX5_shorten 128 = .ok (.iconst 0, 1) := by decide +kernel
theorem dX5_shorten_129 : decode cX5_shorten 129 = .ok (.ireturn, 1) := by decide +kernel
