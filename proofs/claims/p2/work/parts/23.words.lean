theorem q_18 : Cond.selects RX5 yX5_priceByCoin yX5_priceByCoin ∈ oh_t := oh_of (i := 18) (by decide +kernel) rfl
theorem q_19 : Cond.selects RX5 yX5_spread yX5_spread ∈ oh_t := oh_of (i := 19) (by decide +kernel) rfl
theorem q_153 : Cond.fieldLink RX5 90 "OneHeavyLoad$Pack" "sentCoin" "I" ∈ oh_t := oh_of (i := 153) (by decide +kernel) rfl
theorem q_751 : Cond.instanceMethod yX5_survey ∈ oh_t := oh_of (i := 751) (by decide +kernel) rfl
theorem q_752 : Cond.selects RX5 yX5_survey yX5_survey ∈ oh_t := oh_of (i := 752) (by decide +kernel) rfl
theorem q_753 : Cond.code yX5_survey cX5_survey 6 none ∈ oh_t := oh_of (i := 753) (by decide +kernel) rfl
theorem q_784 : Cond.methodLink RX5 78 yX5_survey ∈ oh_t := oh_of (i := 784) (by decide +kernel) rfl
theorem q_785 : Cond.methodLink RX5 82 yX5_priceByCoin ∈ oh_t := oh_of (i := 785) (by decide +kernel) rfl
theorem q_787 : Cond.instanceMethod yX5_priceByCoin ∈ oh_t := oh_of (i := 787) (by decide +kernel) rfl
theorem q_788 : Cond.code yX5_priceByCoin cX5_priceByCoin 3 none ∈ oh_t := oh_of (i := 788) (by decide +kernel) rfl
theorem q_790 : Cond.methodLink RX5 86 yX5_spread ∈ oh_t := oh_of (i := 790) (by decide +kernel) rfl
theorem q_792 : Cond.instanceMethod yX5_spread ∈ oh_t := oh_of (i := 792) (by decide +kernel) rfl
theorem q_793 : Cond.code yX5_spread cX5_spread 5 none ∈ oh_t := oh_of (i := 793) (by decide +kernel) rfl
theorem pdVX5_priceByCoin : yX5_priceByCoin.cls = RX5 ∧ yX5_priceByCoin.cls ≠ "java/lang/invoke/MethodHandle" ∧ yX5_priceByCoin.cls ≠ "java/lang/invoke/VarHandle" ∧ (parseMethodDescriptor yX5_priceByCoin.desc).map (fun d => d.parameters.length) = some 1 := by decide +kernel
theorem pdVX5_spread : yX5_spread.cls = RX5 ∧ yX5_spread.cls ≠ "java/lang/invoke/MethodHandle" ∧ yX5_spread.cls ≠ "java/lang/invoke/VarHandle" ∧ (parseMethodDescriptor yX5_spread.desc).map (fun d => d.parameters.length) = some 1 := by decide +kernel
theorem pdVX5_survey : yX5_survey.cls = RX5 ∧ yX5_survey.cls ≠ "java/lang/invoke/MethodHandle" ∧ yX5_survey.cls ≠ "java/lang/invoke/VarHandle" ∧ (parseMethodDescriptor yX5_survey.desc).map (fun d => d.parameters.length) = some 2 := by decide +kernel
theorem dX5_hasWay_0 : decode cX5_hasWay 0 = .ok (.aload_n 0, 1) := by decide +kernel
theorem dX5_hasWay_1 : decode cX5_hasWay 1 = .ok (.iload_n 1, 1) := by decide +kernel
theorem dX5_hasWay_2 : decode cX5_hasWay 2 = .ok (.iload_n 2, 1) := by decide +kernel
theorem dX5_hasWay_3 : decode cX5_hasWay 3 = .ok (.invokevirtual 78, 3) := by decide +kernel
theorem dX5_hasWay_6 : decode cX5_hasWay 6 = .ok (.aload_n 0, 1) := by decide +kernel
theorem dX5_hasWay_7 : decode cX5_hasWay 7 = .ok (.iconst 1, 1) := by decide +kernel
theorem dX5_hasWay_8 : decode cX5_hasWay 8 = .ok (.invokevirtual 82, 3) := by decide +kernel
theorem dX5_hasWay_11 : decode cX5_hasWay 11 = .ok (.aload_n 0, 1) := by decide +kernel
theorem dX5_hasWay_12 : decode cX5_hasWay 12 = .ok (.iload_n 3, 1) := by decide +kernel
theorem dX5_hasWay_13 : decode cX5_hasWay 13 = .ok (.invokevirtual 86, 3) := by decide +kernel
theorem dX5_hasWay_16 : decode cX5_hasWay 16 = .ok (.aload_n 0, 1) := by decide +kernel
theorem dX5_hasWay_17 : decode cX5_hasWay 17 = .ok (.getfield 35, 3) := by decide +kernel
theorem dX5_hasWay_20 : decode cX5_hasWay 20 = .ok (.iload 4, 2) := by decide +kernel
theorem dX5_hasWay_22 : decode cX5_hasWay 22 = .ok (.iaload, 1) := by decide +kernel
theorem dX5_hasWay_23 : decode cX5_hasWay 23 = .ok (.ldc 89, 2) := by decide +kernel
theorem dX5_hasWay_25 : decode cX5_hasWay 25 = .ok (.if_icmp .eq 7, 3) := by decide +kernel
theorem dX5_hasWay_28 : decode cX5_hasWay 28 = .ok (.iconst 1, 1) := by decide +kernel
theorem dX5_hasWay_29 : decode cX5_hasWay 29 = .ok (.goto 4, 3) := by decide +kernel
theorem dX5_hasWay_32 : decode cX5_hasWay 32 = .ok (.iconst 0, 1) := by decide +kernel
theorem dX5_hasWay_33 : decode cX5_hasWay 33 = .ok (.ireturn, 1) := by decide +kernel
theorem dX5_leastCoin_0 : decode cX5_leastCoin 0 = .ok (.aload_n 0, 1) := by decide +kernel
theorem dX5_leastCoin_1 : decode cX5_leastCoin 1 = .ok (.iload_n 1, 1) := by decide +kernel
theorem dX5_leastCoin_2 : decode cX5_leastCoin 2 = .ok (.iload_n 2, 1) := by decide +kernel
theorem dX5_leastCoin_3 : decode cX5_leastCoin 3 = .ok (.invokevirtual 78, 3) := by decide +kernel
theorem dX5_leastCoin_6 : decode cX5_leastCoin 6 = .ok (.aload_n 0, 1) := by decide +kernel
theorem dX5_leastCoin_7 : decode cX5_leastCoin 7 = .ok (.iload 5, 2) := by decide +kernel
theorem dX5_leastCoin_9 : decode cX5_leastCoin 9 = .ok (.invokevirtual 82, 3) := by decide +kernel
theorem dX5_leastCoin_12 : decode cX5_leastCoin 12 = .ok (.aload_n 0, 1) := by decide +kernel
theorem dX5_leastCoin_13 : decode cX5_leastCoin 13 = .ok (.iload_n 3, 1) := by decide +kernel
theorem dX5_leastCoin_14 : decode cX5_leastCoin 14 = .ok (.invokevirtual 86, 3) := by decide +kernel
theorem dX5_leastCoin_17 : decode cX5_leastCoin 17 = .ok (.aload_n 0, 1) := by decide +kernel
theorem dX5_leastCoin_18 : decode cX5_leastCoin 18 = .ok (.getfield 35, 3) := by decide +kernel
theorem dX5_leastCoin_21 : decode cX5_leastCoin 21 = .ok (.iload 4, 2) := by decide +kernel
theorem dX5_leastCoin_23 : decode cX5_leastCoin 23 = .ok (.iaload, 1) := by decide +kernel
theorem dX5_leastCoin_24 : decode cX5_leastCoin 24 = .ok (.ldc 89, 2) := by decide +kernel
theorem dX5_leastCoin_26 : decode cX5_leastCoin 26 = .ok (.if_icmp .ne 8, 3) := by decide +kernel
theorem dX5_leastCoin_29 : decode cX5_leastCoin 29 = .ok (.ldc 89, 2) := by decide +kernel
theorem dX5_leastCoin_31 : decode cX5_leastCoin 31 = .ok (.goto 21, 3) := by decide +kernel
theorem dX5_leastCoin_34 : decode cX5_leastCoin 34 = .ok (.aload_n 0, 1) := by decide +kernel
theorem dX5_leastCoin_35 : decode cX5_leastCoin 35 = .ok (.getfield 35, 3) := by decide +kernel
theorem dX5_leastCoin_38 : decode cX5_leastCoin 38 = .ok (.iload 4, 2) := by decide +kernel
theorem dX5_leastCoin_40 : decode cX5_leastCoin 40 = .ok (.iaload, 1) := by decide +kernel
theorem dX5_leastCoin_41 : decode cX5_leastCoin 41 = .ok (.iload 5, 2) := by decide +kernel
theorem dX5_leastCoin_43 : decode cX5_leastCoin 43 = .ok (.aload_n 0, 1) := by decide +kernel
theorem dX5_leastCoin_44 : decode cX5_leastCoin 44 = .ok (.getfield 18, 3) := by decide +kernel
theorem dX5_leastCoin_47 : decode cX5_leastCoin 47 = .ok (.getfield 90, 3) := by decide +kernel
theorem dX5_leastCoin_50 : decode cX5_leastCoin 50 = .ok (.imul, 1) := by decide +kernel
theorem dX5_leastCoin_51 : decode cX5_leastCoin 51 = .ok (.iadd, 1) := by decide +kernel
theorem dX5_leastCoin_52 : decode cX5_leastCoin 52 = .ok (.ireturn, 1) := by decide +kernel
