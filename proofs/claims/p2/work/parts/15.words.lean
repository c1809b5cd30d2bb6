theorem q_68 : Cond.initialized RX5 ∈ oh_t := oh_of (i := 68) (by decide +kernel) rfl
theorem q_70 : Cond.initialized RX3 ∈ oh_t := oh_of (i := 70) (by decide +kernel) rfl
theorem q_109 : Cond.fieldLink RX5 68 "OneHeavyLoad$Land" "settings" "[I" ∈ oh_t := oh_of (i := 109) (by decide +kernel) rfl
theorem q_150 : Cond.fieldLink RX5 65 "OneHeavyLoad$Pack" "axleLoad" "I" ∈ oh_t := oh_of (i := 150) (by decide +kernel) rfl
theorem q_167 : Cond.fieldLink RX5 9 "OneHeavyLoad$Ways" "land" "LOneHeavyLoad$Land;" ∈ oh_t := oh_of (i := 167) (by decide +kernel) rfl
theorem q_168 : Cond.fieldLink RX5 18 "OneHeavyLoad$Ways" "pack" "LOneHeavyLoad$Pack;" ∈ oh_t := oh_of (i := 168) (by decide +kernel) rfl
theorem q_170 : Cond.fieldLink RX5 26 "OneHeavyLoad$Ways" "props" "[I" ∈ oh_t := oh_of (i := 170) (by decide +kernel) rfl
theorem q_172 : Cond.fieldLink RX5 29 "OneHeavyLoad$Ways" "propCoin" "[I" ∈ oh_t := oh_of (i := 172) (by decide +kernel) rfl
theorem q_175 : Cond.fieldLink RX5 38 "OneHeavyLoad$Ways" "walked" "[I" ∈ oh_t := oh_of (i := 175) (by decide +kernel) rfl
theorem q_198 : Cond.fieldLink RX3 9 "OneHeavyLoad$Shelves" "held" "[I" ∈ oh_t := oh_of (i := 198) (by decide +kernel) rfl
theorem q_200 : Cond.fieldLink RX3 15 "OneHeavyLoad$Shelves" "size" "[I" ∈ oh_t := oh_of (i := 200) (by decide +kernel) rfl
theorem q_313 : Cond.instanceMethod yX3_holdsBridge ∈ oh_t := oh_of (i := 313) (by decide +kernel) rfl
theorem q_314 : Cond.selects RX3 yX3_holdsBridge yX3_holdsBridge ∈ oh_t := oh_of (i := 314) (by decide +kernel) rfl
theorem q_315 : Cond.code yX3_holdsBridge cX3_holdsBridge 2 (some .boolean) ∈ oh_t := oh_of (i := 315) (by decide +kernel) rfl
theorem q_317 : Cond.instanceMethod yX3_holdsNothing ∈ oh_t := oh_of (i := 317) (by decide +kernel) rfl
theorem q_318 : Cond.selects RX3 yX3_holdsNothing yX3_holdsNothing ∈ oh_t := oh_of (i := 318) (by decide +kernel) rfl
theorem q_319 : Cond.code yX3_holdsNothing cX3_holdsNothing 2 (some .boolean) ∈ oh_t := oh_of (i := 319) (by decide +kernel) rfl
theorem q_335 : Cond.methodLink RX3 29 yX3_holdsRow ∈ oh_t := oh_of (i := 335) (by decide +kernel) rfl
theorem q_336 : Cond.instanceMethod yX3_holdsRow ∈ oh_t := oh_of (i := 336) (by decide +kernel) rfl
theorem q_337 : Cond.selects RX3 yX3_holdsRow yX3_holdsRow ∈ oh_t := oh_of (i := 337) (by decide +kernel) rfl
theorem q_338 : Cond.code yX3_holdsRow cX3_holdsRow 2 (some .boolean) ∈ oh_t := oh_of (i := 338) (by decide +kernel) rfl
theorem q_339 : Cond.methodLink RX3 22 yX3_holdsNothing ∈ oh_t := oh_of (i := 339) (by decide +kernel) rfl
theorem q_340 : Cond.methodLink RX3 26 yX3_holdsBridge ∈ oh_t := oh_of (i := 340) (by decide +kernel) rfl
theorem q_480 : Cond.instanceMethod yX0_ofRoad ∈ oh_t := oh_of (i := 480) (by decide +kernel) rfl
theorem q_481 : Cond.selects RX0 yX0_ofRoad yX0_ofRoad ∈ oh_t := oh_of (i := 481) (by decide +kernel) rfl
theorem q_482 : Cond.code yX0_ofRoad cX0_ofRoad 3 (some .int) ∈ oh_t := oh_of (i := 482) (by decide +kernel) rfl
theorem q_755 : Cond.methodLink RX5 50 yX0_ofRoad ∈ oh_t := oh_of (i := 755) (by decide +kernel) rfl
theorem q_759 : Cond.instanceMethod yX5_engines ∈ oh_t := oh_of (i := 759) (by decide +kernel) rfl
theorem q_760 : Cond.selects RX5 yX5_engines yX5_engines ∈ oh_t := oh_of (i := 760) (by decide +kernel) rfl
theorem q_761 : Cond.code yX5_engines cX5_engines 2 (some .int) ∈ oh_t := oh_of (i := 761) (by decide +kernel) rfl
theorem q_766 : Cond.methodLink RX5 71 yX5_engines ∈ oh_t := oh_of (i := 766) (by decide +kernel) rfl
theorem pdVX0_ofRoad : yX0_ofRoad.cls = RX0 ∧ yX0_ofRoad.cls ≠ "java/lang/invoke/MethodHandle" ∧ yX0_ofRoad.cls ≠ "java/lang/invoke/VarHandle" ∧ (parseMethodDescriptor yX0_ofRoad.desc).map (fun d => d.parameters.length) = some 2 := by decide +kernel
theorem pdVX3_holdsBridge : yX3_holdsBridge.cls = RX3 ∧ yX3_holdsBridge.cls ≠ "java/lang/invoke/MethodHandle" ∧ yX3_holdsBridge.cls ≠ "java/lang/invoke/VarHandle" ∧ (parseMethodDescriptor yX3_holdsBridge.desc).map (fun d => d.parameters.length) = some 1 := by decide +kernel
theorem pdVX3_holdsNothing : yX3_holdsNothing.cls = RX3 ∧ yX3_holdsNothing.cls ≠ "java/lang/invoke/MethodHandle" ∧ yX3_holdsNothing.cls ≠ "java/lang/invoke/VarHandle" ∧ (parseMethodDescriptor yX3_holdsNothing.desc).map (fun d => d.parameters.length) = some 1 := by decide +kernel
theorem pdVX3_holdsRow : yX3_holdsRow.cls = RX3 ∧ yX3_holdsRow.cls ≠ "java/lang/invoke/MethodHandle" ∧ yX3_holdsRow.cls ≠ "java/lang/invoke/VarHandle" ∧ (parseMethodDescriptor yX3_holdsRow.desc).map (fun d => d.parameters.length) = some 1 := by decide +kernel
theorem pdVX5_engines : yX5_engines.cls = RX5 ∧ yX5_engines.cls ≠ "java/lang/invoke/MethodHandle" ∧ yX5_engines.cls ≠ "java/lang/invoke/VarHandle" ∧ (parseMethodDescriptor yX5_engines.desc).map (fun d => d.parameters.length) = some 1 := by decide +kernel
theorem dX3_holdsBridge_0 : decode cX3_holdsBridge 0 = .ok (.aload_n 0, 1) := by decide +kernel
theorem dX3_holdsBridge_1 : decode cX3_holdsBridge 1 = .ok (.getfield 9, 3) := by decide +kernel
theorem dX3_holdsBridge_4 : decode cX3_holdsBridge 4 = .ok (.iload_n 1, 1) := by decide +kernel
theorem dX3_holdsBridge_5 : decode cX3_holdsBridge 5 = .ok (.iaload, 1) := by decide +kernel
theorem dX3_holdsBridge_6 : decode cX3_holdsBridge 6 = .ok (.bipush 10, 2) := by decide +kernel
theorem dX3_holdsBridge_8 : decode cX3_holdsBridge 8 = .ok (.if_icmp .lt 7, 3) := by decide +kernel
theorem dX3_holdsBridge_11 : decode cX3_holdsBridge 11 = .ok (.iconst 1, 1) := by decide +kernel
theorem dX3_holdsBridge_12 : decode cX3_holdsBridge 12 = .ok (.goto 4, 3) := by decide +kernel
theorem dX3_holdsBridge_15 : decode cX3_holdsBridge 15 = .ok (.iconst 0, 1) := by decide +kernel
theorem dX3_holdsBridge_16 : decode cX3_holdsBridge 16 = .ok (.ireturn, 1) := by decide +kernel
theorem dX3_holdsNothing_0 : decode cX3_holdsNothing 0 = .ok (.aload_n 0, 1) := by decide +kernel
theorem dX3_holdsNothing_1 : decode cX3_holdsNothing 1 = .ok (.getfield 9, 3) := by decide +kernel
theorem dX3_holdsNothing_4 : decode cX3_holdsNothing 4 = .ok (.iload_n 1, 1) := by decide +kernel
theorem dX3_holdsNothing_5 : decode cX3_holdsNothing 5 = .ok (.iaload, 1) := by decide +kernel
theorem dX3_holdsNothing_6 : decode cX3_holdsNothing 6 = .ok (.iconst (-1), 1) := by decide +kernel
theorem dX3_holdsNothing_7 : decode cX3_holdsNothing 7 = .ok (.if_icmp .ne 7, 3) := by decide +kernel
theorem dX3_holdsNothing_10 : decode cX3_holdsNothing 10 = .ok (.iconst 1, 1) := by decide +kernel
theorem dX3_holdsNothing_11 : decode cX3_holdsNothing 11 = .ok (.goto 4, 3) := by decide +kernel
theorem dX3_holdsNothing_14 : decode cX3_holdsNothing 14 = .ok (.iconst 0, 1) := by decide +kernel
theorem dX3_holdsNothing_15 : decode cX3_holdsNothing 15 = .ok (.ireturn, 1) := by decide +kernel
theorem dX3_holdsRow_0 : decode cX3_holdsRow 0 = .ok (.aload_n 0, 1) := by decide +kernel
theorem dX3_holdsRow_1 : decode cX3_holdsRow 1 = .ok (.iload_n 1, 1) := by decide +kernel
theorem dX3_holdsRow_2 : decode cX3_holdsRow 2 = .ok (.invokevirtual 22, 3) := by decide +kernel
theorem dX3_holdsRow_5 : decode cX3_holdsRow 5 = .ok (.ifCond .ne 15, 3) := by decide +kernel
theorem dX3_holdsRow_8 : decode cX3_holdsRow 8 = .ok (.aload_n 0, 1) := by decide +kernel
theorem dX3_holdsRow_9 : decode cX3_holdsRow 9 = .ok (.iload_n 1, 1) := by decide +kernel
theorem dX3_holdsRow_10 : decode cX3_holdsRow 10 = .ok (.invokevirtual 26, 3) := by decide +kernel
theorem dX3_holdsRow_13 : decode cX3_holdsRow 13 = .ok (.ifCond .ne 7, 3) := by decide +kernel
theorem dX3_holdsRow_16 : decode cX3_holdsRow 16 = .ok (.iconst 1, 1) := by decide +kernel
theorem dX3_holdsRow_17 : decode cX3_holdsRow 17 = .ok (.goto 4, 3) := by decide +kernel
theorem dX3_holdsRow_20 : decode cX3_holdsRow 20 = .ok (.iconst 0, 1) := by decide +kernel
theorem dX3_holdsRow_21 : decode cX3_holdsRow 21 = .ok (.ireturn, 1) := by decide +kernel
theorem dX3_holdsUnlikeRows_0 : decode cX3_holdsUnlikeRows 0 = .ok (.aload_n 0, 1) := by decide +kernel
theorem dX3_holdsUnlikeRows_1 : decode cX3_holdsUnlikeRows 1 = .ok (.iload_n 1, 1) := by decide +kernel
theorem dX3_holdsUnlikeRows_2 : decode cX3_holdsUnlikeRows 2 = .ok (.invokevirtual 29, 3) := by decide +kernel
theorem dX3_holdsUnlikeRows_5 : decode cX3_holdsUnlikeRows 5 = .ok (.ifCond .eq 30, 3) := by decide +kernel
theorem dX3_holdsUnlikeRows_8 : decode cX3_holdsUnlikeRows 8 = .ok (.aload_n 0, 1) := by decide +kernel
theorem dX3_holdsUnlikeRows_9 : decode cX3_holdsUnlikeRows 9 = .ok (.iload_n 2, 1) := by decide +kernel
theorem dX3_holdsUnlikeRows_10 : decode cX3_holdsUnlikeRows 10 = .ok (.invokevirtual 29, 3) := by decide +kernel
theorem dX3_holdsUnlikeRows_13 : decode cX3_holdsUnlikeRows 13 = .ok (.ifCond .eq 22, 3) := by decide +kernel
theorem dX3_holdsUnlikeRows_16 : decode cX3_holdsUnlikeRows 16 = .ok (.aload_n 0, 1) := by decide +kernel
theorem dX3_holdsUnlikeRows_17 : decode cX3_holdsUnlikeRows 17 = .ok (.getfield 9, 3) := by decide +kernel
theorem dX3_holdsUnlikeRows_20 : decode cX3_holdsUnlikeRows 20 = .ok (.iload_n 1, 1) := by decide +kernel
theorem dX3_holdsUnlikeRows_21 : decode cX3_holdsUnlikeRows 21 = .ok (.iaload, 1) := by decide +kernel
theorem dX3_holdsUnlikeRows_22 : decode cX3_holdsUnlikeRows 22 = .ok (.aload_n 0, 1) := by decide +kernel
theorem dX3_holdsUnlikeRows_23 : decode cX3_holdsUnlikeRows 23 = .ok (.getfield 9, 3) := by decide +kernel
theorem dX3_holdsUnlikeRows_26 : decode cX3_holdsUnlikeRows 26 = .ok (.iload_n 2, 1) := by decide +kernel
theorem dX3_holdsUnlikeRows_27 : decode cX3_holdsUnlikeRows 27 = .ok (.iaload, 1) := by decide +kernel
theorem dX3_holdsUnlikeRows_28 : decode cX3_holdsUnlikeRows 28 = .ok (.if_icmp .eq 7, 3) := by decide +kernel
theorem dX3_holdsUnlikeRows_31 : decode cX3_holdsUnlikeRows 31 = .ok (.iconst 1, 1) := by decide +kernel
theorem dX3_holdsUnlikeRows_32 : decode cX3_holdsUnlikeRows 32 = .ok (.goto 4, 3) := by decide +kernel
theorem dX3_holdsUnlikeRows_35 : decode cX3_holdsUnlikeRows 35 = .ok (.iconst 0, 1) := by decide +kernel
theorem dX3_holdsUnlikeRows_36 : decode cX3_holdsUnlikeRows 36 = .ok (.ireturn, 1) := by decide +kernel
theorem dX3_putBridge_0 : decode cX3_putBridge 0 = .ok (.aload_n 0, 1) := by decide +kernel
theorem dX3_putBridge_1 : decode cX3_putBridge 1 = .ok (.getfield 9, 3) := by decide +kernel
theorem dX3_putBridge_4 : decode cX3_putBridge 4 = .ok (.iload_n 1, 1) := by decide +kernel
theorem dX3_putBridge_5 : decode cX3_putBridge 5 = .ok (.iload_n 2, 1) := by decide +kernel
theorem dX3_putBridge_6 : decode cX3_putBridge 6 = .ok (.iconst (-1), 1) := by decide +kernel
theorem dX3_putBridge_7 : decode cX3_putBridge 7 = .ok (.if_icmp .ne 7, 3) := by decide +kernel
theorem dX3_putBridge_10 : decode cX3_putBridge 10 = .ok (.iconst (-1), 1) := by decide +kernel
theorem dX3_putBridge_11 : decode cX3_putBridge 11 = .ok (.goto 7, 3) := by decide +kernel
theorem dX3_putBridge_14 : decode cX3_putBridge 14 = .ok (.bipush 10, 2) := by decide +kernel
theorem dX3_putBridge_16 : decode cX3_putBridge 16 = .ok (.iload_n 2, 1) := by decide +kernel
theorem dX3_putBridge_17 : decode cX3_putBridge 17 = .ok (.iadd, 1) := by decide +kernel
theorem dX3_putBridge_18 : decode cX3_putBridge 18 = .ok (.iastore, 1) := by decide +kernel
theorem dX3_putBridge_19 : decode cX3_putBridge 19 = .ok (.aload_n 0, 1) := by decide +kernel
theorem dX3_putBridge_20 : decode cX3_putBridge 20 = .ok (.getfield 15, 3) := by decide +kernel
theorem dX3_putBridge_23 : decode cX3_putBridge 23 = .ok (.iload_n 1, 1) := by decide +kernel
theorem dX3_putBridge_24 : decode cX3_putBridge 24 = .ok (.iconst 0, 1) := by decide +kernel
theorem dX3_putBridge_25 : decode cX3_putBridge 25 = .ok (.iastore, 1) := by decide +kernel
theorem dX3_putBridge_26 : decode cX3_putBridge 26 = .ok (.return_, 1) := by decide +kernel
theorem dX5_coinOf_0 : decode cX5_coinOf 0 = .ok (.iload_n 2, 1) := by decide +kernel
theorem dX5_coinOf_1 : decode cX5_coinOf 1 = .ok (.aload_n 0, 1) := by decide +kernel
theorem dX5_coinOf_2 : decode cX5_coinOf 2 = .ok (.getfield 9, 3) := by decide +kernel
theorem dX5_coinOf_5 : decode cX5_coinOf 5 = .ok (.getfield 68, 3) := by decide +kernel
theorem dX5_coinOf_8 : decode cX5_coinOf 8 = .ok (.iconst 1, 1) := by decide +kernel
theorem dX5_coinOf_9 : decode cX5_coinOf 9 = .ok (.iaload, 1) := by decide +kernel
theorem dX5_coinOf_10 : decode cX5_coinOf 10 = .ok (.imul, 1) := by decide +kernel
theorem dX5_coinOf_11 : decode cX5_coinOf 11 = .ok (.aload_n 0, 1) := by decide +kernel
theorem dX5_coinOf_12 : decode cX5_coinOf 12 = .ok (.getfield 9, 3) := by decide +kernel
theorem dX5_coinOf_15 : decode cX5_coinOf 15 = .ok (.iload_n 1, 1) := by decide +kernel
theorem dX5_coinOf_16 : decode cX5_coinOf 16 = .ok (.iconst 2, 1) := by decide +kernel
theorem dX5_coinOf_17 : decode cX5_coinOf 17 = .ok (.invokevirtual 50, 3) := by decide +kernel
theorem dX5_coinOf_20 : decode cX5_coinOf 20 = .ok (.imul, 1) := by decide +kernel
theorem dX5_coinOf_21 : decode cX5_coinOf 21 = .ok (.aload_n 0, 1) := by decide +kernel
theorem dX5_coinOf_22 : decode cX5_coinOf 22 = .ok (.iload_n 1, 1) := by decide +kernel
theorem dX5_coinOf_23 : decode cX5_coinOf 23 = .ok (.invokevirtual 71, 3) := by decide +kernel
theorem dX5_coinOf_26 : decode cX5_coinOf 26 = .ok (.imul, 1) := by decide +kernel
theorem dX5_coinOf_27 : decode cX5_coinOf 27 = .ok (.aload_n 0, 1) := by decide +kernel
theorem dX5_coinOf_28 : decode cX5_coinOf 28 = .ok (.getfield 29, 3) := by decide +kernel
theorem dX5_coinOf_31 : decode cX5_coinOf 31 = .ok (.iload_n 1, 1) := by decide +kernel
theorem dX5_coinOf_32 : decode cX5_coinOf 32 = .ok (.iaload, 1) := by decide +kernel
theorem dX5_coinOf_33 : decode cX5_coinOf 33 = .ok (.iadd, 1) := by decide +kernel
theorem dX5_coinOf_34 : decode cX5_coinOf 34 = .ok (.ireturn, 1) := by decide +kernel
theorem dX5_daysOf_0 : decode cX5_daysOf 0 = .ok (.aload_n 0, 1) := by decide +kernel
theorem dX5_daysOf_1 : decode cX5_daysOf 1 = .ok (.getfield 9, 3) := by decide +kernel
theorem dX5_daysOf_4 : decode cX5_daysOf 4 = .ok (.iload_n 1, 1) := by decide +kernel
theorem dX5_daysOf_5 : decode cX5_daysOf 5 = .ok (.iconst 2, 1) := by decide +kernel
theorem dX5_daysOf_6 : decode cX5_daysOf 6 = .ok (.invokevirtual 50, 3) := by decide +kernel
theorem dX5_daysOf_9 : decode cX5_daysOf 9 = .ok (.bipush 10, 2) := by decide +kernel
theorem dX5_daysOf_11 : decode cX5_daysOf 11 = .ok (.invokestatic 75, 3) := by decide +kernel
theorem dX5_daysOf_14 : decode cX5_daysOf 14 = .ok (.iconst 3, 1) := by decide +kernel
theorem dX5_daysOf_15 : decode cX5_daysOf 15 = .ok (.aload_n 0, 1) := by decide +kernel
theorem dX5_daysOf_16 : decode cX5_daysOf 16 = .ok (.getfield 26, 3) := by decide +kernel
theorem dX5_daysOf_19 : decode cX5_daysOf 19 = .ok (.iload_n 1, 1) := by decide +kernel
theorem dX5_daysOf_20 : decode cX5_daysOf 20 = .ok (.iaload, 1) := by decide +kernel
theorem dX5_daysOf_21 : decode cX5_daysOf 21 = .ok (.imul, 1) := by decide +kernel
theorem dX5_daysOf_22 : decode cX5_daysOf 22 = .ok (.iadd, 1) := by decide +kernel
theorem dX5_daysOf_23 : decode cX5_daysOf 23 = .ok (.ireturn, 1) := by decide +kernel
theorem dX5_engines_0 : decode cX5_engines 0 = .ok (.iconst 1, 1) := by decide +kernel
theorem dX5_engines_1 : decode cX5_engines 1 = .ok (.aload_n 0, 1) := by decide +kernel
theorem dX5_engines_2 : decode cX5_engines 2 = .ok (.getfield 9, 3) := by decide +kernel
theorem dX5_engines_5 : decode cX5_engines 5 = .ok (.iload_n 1, 1) := by decide +kernel
theorem dX5_engines_6 : decode cX5_engines 6 = .ok (.iconst 3, 1) := by decide +kernel
theorem dX5_engines_7 : decode cX5_engines 7 = .ok (.invokevirtual 50, 3) := by decide +kernel
theorem dX5_engines_10 : decode cX5_engines 10 = .ok (.aload_n 0, 1) := by decide +kernel
theorem dX5_engines_11 : decode cX5_engines 11 = .ok (.getfield 18, 3) := by decide +kernel
theorem dX5_engines_14 : decode cX5_engines 14 = .ok (.getfield 65, 3) := by decide +kernel
theorem dX5_engines_17 : decode cX5_engines 17 = .ok (.imul, 1) := by decide +kernel
theorem dX5_engines_18 : decode cX5_engines 18 = .ok (.bipush 100, 2) := by decide +kernel
theorem dX5_engines_20 : decode cX5_engines 20 = .ok (.idiv, 1) := by decide +kernel
theorem dX5_engines_21 : decode cX5_engines 21 = .ok (.iadd, 1) := by decide +kernel
theorem dX5_engines_22 : decode cX5_engines 22 = .ok (.ireturn, 1) := by decide +kernel
theorem dX5_otherEnd_0 : decode cX5_otherEnd 0 = .ok (.aload_n 0, 1) := by decide +kernel
theorem dX5_otherEnd_1 : decode cX5_otherEnd 1 = .ok (.getfield 9, 3) := by decide +kernel
theorem dX5_otherEnd_4 : decode cX5_otherEnd 4 = .ok (.iload_n 1, 1) := by decide +kernel
theorem dX5_otherEnd_5 : decode cX5_otherEnd 5 = .ok (.iconst 0, 1) := by decide +kernel
theorem dX5_otherEnd_6 : decode cX5_otherEnd 6 = .ok (.invokevirtual 50, 3) := by decide +kernel
theorem dX5_otherEnd_9 : decode cX5_otherEnd 9 = .ok (.iload_n 2, 1) := by decide +kernel
theorem dX5_otherEnd_10 : decode cX5_otherEnd 10 = .ok (.if_icmp .ne 13, 3) := by decide +kernel
theorem dX5_otherEnd_13 : decode cX5_otherEnd 13 = .ok (.aload_n 0, 1) := by decide +kernel
theorem dX5_otherEnd_14 : decode cX5_otherEnd 14 = .ok (.getfield 9, 3) := by decide +kernel
theorem dX5_otherEnd_17 : decode cX5_otherEnd 17 = .ok (.iload_n 1, 1) := by decide +kernel
theorem dX5_otherEnd_18 : decode cX5_otherEnd 18 = .ok (.iconst 1, 1) := by decide +kernel
theorem dX5_otherEnd_19 : decode cX5_otherEnd 19 = .ok (.invokevirtual 50, 3) := by decide +kernel
theorem dX5_otherEnd_22 : decode cX5_otherEnd 22 = .ok (.ireturn, 1) := by decide +kernel
theorem dX5_otherEnd_23 : decode cX5_otherEnd 23 = .ok (.aload_n 0, 1) := by decide +kernel
theorem dX5_otherEnd_24 : decode cX5_otherEnd 24 = .ok (.getfield 9, 3) := by decide +kernel
theorem dX5_otherEnd_27 : decode cX5_otherEnd 27 = .ok (.iload_n 1, 1) := by decide +kernel
theorem dX5_otherEnd_28 : decode cX5_otherEnd 28 = .ok (.iconst 1, 1) := by decide +kernel
theorem dX5_otherEnd_29 : decode cX5_otherEnd 29 = .ok (.invokevirtual 50, 3) := by decide +kernel
theorem dX5_otherEnd_32 : decode cX5_otherEnd 32 = .ok (.iload_n 2, 1) := by decide +kernel
theorem dX5_otherEnd_33 : decode cX5_otherEnd 33 = .ok (.if_icmp .ne 15, 3) := by decide +kernel
theorem dX5_otherEnd_36 : decode cX5_otherEnd 36 = .ok (.aload_n 0, 1) := by decide +kernel
theorem dX5_otherEnd_37 : decode cX5_otherEnd 37 = .ok (.getfield 9, 3) := by decide +kernel
theorem dX5_otherEnd_40 : decode cX5_otherEnd 40 = .ok (.iload_n 1, 1) := by decide +kernel
theorem dX5_otherEnd_41 : decode cX5_otherEnd 41 = .ok (.iconst 0, 1) := by decide +kernel
theorem dX5_otherEnd_42 : decode cX5_otherEnd 42 = .ok (.invokevirtual 50, 3) := by decide +kernel
theorem dX5_otherEnd_45 : decode cX5_otherEnd 45 = .ok (.goto 4, 3) := by decide +kernel
theorem dX5_otherEnd_48 : decode cX5_otherEnd 48 = .ok (.iconst (-1), 1) := by decide +kernel
theorem dX5_otherEnd_49 : decode cX5_otherEnd 49 = .ok (.ireturn, 1) := by decide +kernel
theorem dX5_setOut_0 : decode cX5_setOut 0 = .ok (.aload_n 0, 1) := by decide +kernel
theorem dX5_setOut_1 : decode cX5_setOut 1 = .ok (.getfield 38, 3) := by decide +kernel
theorem dX5_setOut_4 : decode cX5_setOut 4 = .ok (.iconst 0, 1) := by decide +kernel
theorem dX5_setOut_5 : decode cX5_setOut 5 = .ok (.iconst 0, 1) := by decide +kernel
theorem dX5_setOut_6 : decode cX5_setOut 6 = .ok (.iastore, 1) := by decide +kernel
theorem dX5_setOut_7 : decode cX5_setOut 7 = .ok (.aload_n 0, 1) := by decide +kernel
theorem dX5_setOut_8 : decode cX5_setOut 8 = .ok (.getfield 38, 3) := by decide +kernel
theorem dX5_setOut_11 : decode cX5_setOut 11 = .ok (.iconst 1, 1) := by decide +kernel
theorem dX5_setOut_12 : decode cX5_setOut 12 = .ok (.iconst 0, 1) := by decide +kernel
theorem dX5_setOut_13 : decode cX5_setOut 13 = .ok (.iastore, 1) := by decide +kernel
theorem dX5_setOut_14 : decode cX5_setOut 14 = .ok (.aload_n 0, 1) := by decide +kernel
theorem dX5_setOut_15 : decode cX5_setOut 15 = .ok (.getfield 38, 3) := by decide +kernel
theorem dX5_setOut_18 : decode cX5_setOut 18 = .ok (.iconst 2, 1) := by decide +kernel
theorem dX5_setOut_19 : decode cX5_setOut 19 = .ok (.iconst 0, 1) := by decide +kernel
theorem dX5_setOut_20 : decode cX5_setOut 20 = .ok (.iastore, 1) := by decide +kernel
theorem dX5_setOut_21 : decode cX5_setOut 21 = .ok (.aload_n 0, 1) := by decide +kernel
theorem dX5_setOut_22 : decode cX5_setOut 22 = .ok (.getfield 38, 3) := by decide +kernel
theorem dX5_setOut_25 : decode cX5_setOut 25 = .ok (.iconst 3, 1) := by decide +kernel
theorem dX5_setOut_26 : decode cX5_setOut 26 = .ok (.iload_n 1, 1) := by decide +kernel
theorem dX5_setOut_27 : decode cX5_setOut 27 = .ok (.iastore, 1) := by decide +kernel
theorem dX5_setOut_28 : decode cX5_setOut 28 = .ok (.return_, 1) := by decide +kernel
