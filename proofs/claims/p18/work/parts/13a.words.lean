theorem q_70 : Cond.initialized RX3 ∈ oh_t := oh_of (i := 70) (by decide +kernel) rfl
theorem q_198 : Cond.fieldLink RX3 9 "OneHeavyLoad$Shelves" "held" "[I" ∈ oh_t := oh_of (i := 198) (by decide +kernel) rfl
theorem q_200 : Cond.fieldLink RX3 15 "OneHeavyLoad$Shelves" "size" "[I" ∈ oh_t := oh_of (i := 200) (by decide +kernel) rfl
theorem q_202 : Cond.fieldLink RX3 18 "OneHeavyLoad$Shelves" "cells" "[J" ∈ oh_t := oh_of (i := 202) (by decide +kernel) rfl
theorem q_313 : Cond.instanceMethod yX3_holdsBridge ∈ oh_t := oh_of (i := 313) (by decide +kernel) rfl
theorem q_314 : Cond.selects RX3 yX3_holdsBridge yX3_holdsBridge ∈ oh_t := oh_of (i := 314) (by decide +kernel) rfl
theorem q_315 : Cond.code yX3_holdsBridge cX3_holdsBridge 2 (some .boolean) ∈ oh_t := oh_of (i := 315) (by decide +kernel) rfl
theorem q_317 : Cond.instanceMethod yX3_holdsNothing ∈ oh_t := oh_of (i := 317) (by decide +kernel) rfl
theorem q_318 : Cond.selects RX3 yX3_holdsNothing yX3_holdsNothing ∈ oh_t := oh_of (i := 318) (by decide +kernel) rfl
theorem q_319 : Cond.code yX3_holdsNothing cX3_holdsNothing 2 (some .boolean) ∈ oh_t := oh_of (i := 319) (by decide +kernel) rfl
theorem q_324 : Cond.methodLink RX3 40 yX3_asSort ∈ oh_t := oh_of (i := 324) (by decide +kernel) rfl
theorem q_325 : Cond.static yX3_asSort ∈ oh_t := oh_of (i := 325) (by decide +kernel) rfl
theorem q_326 : Cond.code yX3_asSort cX3_asSort 3 (some .long) ∈ oh_t := oh_of (i := 326) (by decide +kernel) rfl
theorem q_335 : Cond.methodLink RX3 29 yX3_holdsRow ∈ oh_t := oh_of (i := 335) (by decide +kernel) rfl
theorem q_336 : Cond.instanceMethod yX3_holdsRow ∈ oh_t := oh_of (i := 336) (by decide +kernel) rfl
theorem q_337 : Cond.selects RX3 yX3_holdsRow yX3_holdsRow ∈ oh_t := oh_of (i := 337) (by decide +kernel) rfl
theorem q_338 : Cond.code yX3_holdsRow cX3_holdsRow 2 (some .boolean) ∈ oh_t := oh_of (i := 338) (by decide +kernel) rfl
theorem q_339 : Cond.methodLink RX3 22 yX3_holdsNothing ∈ oh_t := oh_of (i := 339) (by decide +kernel) rfl
theorem q_340 : Cond.methodLink RX3 26 yX3_holdsBridge ∈ oh_t := oh_of (i := 340) (by decide +kernel) rfl
theorem q_371 : Cond.instanceMethod yX3_putBridge ∈ oh_t := oh_of (i := 371) (by decide +kernel) rfl
theorem q_372 : Cond.selects RX3 yX3_putBridge yX3_putBridge ∈ oh_t := oh_of (i := 372) (by decide +kernel) rfl
theorem q_373 : Cond.code yX3_putBridge cX3_putBridge 3 none ∈ oh_t := oh_of (i := 373) (by decide +kernel) rfl
theorem q_950 : Cond.methodLink RX3 32 yX3_putBridge ∈ oh_t := oh_of (i := 950) (by decide +kernel) rfl
theorem pdX3_asSort : yX3_asSort.cls ≠ "java/lang/invoke/MethodHandle" ∧ yX3_asSort.cls ≠ "java/lang/invoke/VarHandle" ∧ (parseMethodDescriptor yX3_asSort.desc).map (fun d => d.parameters.length) = some 2 := by decide +kernel
theorem pdVX3_holdsBridge : yX3_holdsBridge.cls = RX3 ∧ yX3_holdsBridge.cls ≠ "java/lang/invoke/MethodHandle" ∧ yX3_holdsBridge.cls ≠ "java/lang/invoke/VarHandle" ∧ (parseMethodDescriptor yX3_holdsBridge.desc).map (fun d => d.parameters.length) = some 1 := by decide +kernel
theorem pdVX3_holdsNothing : yX3_holdsNothing.cls = RX3 ∧ yX3_holdsNothing.cls ≠ "java/lang/invoke/MethodHandle" ∧ yX3_holdsNothing.cls ≠ "java/lang/invoke/VarHandle" ∧ (parseMethodDescriptor yX3_holdsNothing.desc).map (fun d => d.parameters.length) = some 1 := by decide +kernel
theorem pdVX3_holdsRow : yX3_holdsRow.cls = RX3 ∧ yX3_holdsRow.cls ≠ "java/lang/invoke/MethodHandle" ∧ yX3_holdsRow.cls ≠ "java/lang/invoke/VarHandle" ∧ (parseMethodDescriptor yX3_holdsRow.desc).map (fun d => d.parameters.length) = some 1 := by decide +kernel
theorem pdVX3_putBridge : yX3_putBridge.cls = RX3 ∧ yX3_putBridge.cls ≠ "java/lang/invoke/MethodHandle" ∧ yX3_putBridge.cls ≠ "java/lang/invoke/VarHandle" ∧ (parseMethodDescriptor yX3_putBridge.desc).map (fun d => d.parameters.length) = some 2 := by decide +kernel
theorem dX3_asSort_0 : decode cX3_asSort 0 = .ok (.iload_n 0, 1) := by decide +kernel
theorem dX3_asSort_1 : decode cX3_asSort 1 = .ok (.tableswitch 61 0 4 #[35, 40, 45, 61, 49], 35) := by decide +kernel
theorem dX3_asSort_36 : decode cX3_asSort 36 = .ok (.lload_n 1, 1) := by decide +kernel
theorem dX3_asSort_37 : decode cX3_asSort 37 = .ok (.l2i, 1) := by decide +kernel
theorem dX3_asSort_38 : decode cX3_asSort 38 = .ok (.i2b, 1) := by decide +kernel
theorem dX3_asSort_39 : decode cX3_asSort 39 = .ok (.i2l, 1) := by decide +kernel
theorem dX3_asSort_40 : decode cX3_asSort 40 = .ok (.lreturn, 1) := by decide +kernel
theorem dX3_asSort_41 : decode cX3_asSort 41 = .ok (.lload_n 1, 1) := by decide +kernel
theorem dX3_asSort_42 : decode cX3_asSort 42 = .ok (.l2i, 1) := by decide +kernel
theorem dX3_asSort_43 : decode cX3_asSort 43 = .ok (.i2s, 1) := by decide +kernel
theorem dX3_asSort_44 : decode cX3_asSort 44 = .ok (.i2l, 1) := by decide +kernel
theorem dX3_asSort_45 : decode cX3_asSort 45 = .ok (.lreturn, 1) := by decide +kernel
theorem dX3_asSort_46 : decode cX3_asSort 46 = .ok (.lload_n 1, 1) := by decide +kernel
theorem dX3_asSort_47 : decode cX3_asSort 47 = .ok (.l2i, 1) := by decide +kernel
theorem dX3_asSort_48 : decode cX3_asSort 48 = .ok (.i2l, 1) := by decide +kernel
theorem dX3_asSort_49 : decode cX3_asSort 49 = .ok (.lreturn, 1) := by decide +kernel
theorem dX3_asSort_50 : decode cX3_asSort 50 = .ok (.lload_n 1, 1) := by decide +kernel
theorem dX3_asSort_51 : decode cX3_asSort 51 = .ok (.lconst 0, 1) := by decide +kernel
theorem dX3_asSort_52 : decode cX3_asSort 52 = .ok (.lcmp, 1) := by decide +kernel
theorem dX3_asSort_53 : decode cX3_asSort 53 = .ok (.ifCond .eq 7, 3) := by decide +kernel
theorem dX3_asSort_56 : decode cX3_asSort 56 = .ok (.lconst 1, 1) := by decide +kernel
theorem dX3_asSort_57 : decode cX3_asSort 57 = .ok (.goto 4, 3) := by decide +kernel
theorem dX3_asSort_60 : decode cX3_asSort 60 = .ok (.lconst 0, 1) := by decide +kernel
theorem dX3_asSort_61 : decode cX3_asSort 61 = .ok (.lreturn, 1) := by decide +kernel
theorem dX3_asSort_62 : decode cX3_asSort 62 = .ok (.lload_n 1, 1) := by decide +kernel
theorem dX3_asSort_63 : decode cX3_asSort 63 = .ok (.lreturn, 1) := by decide +kernel
theorem dX3_countHeld_0 : decode cX3_countHeld 0 = .ok (.iconst 0, 1) := by decide +kernel
theorem dX3_countHeld_1 : decode cX3_countHeld 1 = .ok (.istore_n 1, 1) := by decide +kernel
theorem dX3_countHeld_2 : decode cX3_countHeld 2 = .ok (.iconst 0, 1) := by decide +kernel
theorem dX3_countHeld_3 : decode cX3_countHeld 3 = .ok (.istore_n 2, 1) := by decide +kernel
theorem dX3_countHeld_4 : decode cX3_countHeld 4 = .ok (.iload_n 2, 1) := by decide +kernel
theorem dX3_countHeld_5 : decode cX3_countHeld 5 = .ok (.bipush 8, 2) := by decide +kernel
theorem dX3_countHeld_7 : decode cX3_countHeld 7 = .ok (.if_icmp .ge 20, 3) := by decide +kernel
theorem dX3_countHeld_10 : decode cX3_countHeld 10 = .ok (.aload_n 0, 1) := by decide +kernel
theorem dX3_countHeld_11 : decode cX3_countHeld 11 = .ok (.iload_n 2, 1) := by decide +kernel
theorem dX3_countHeld_12 : decode cX3_countHeld 12 = .ok (.invokevirtual 22, 3) := by decide +kernel
theorem dX3_countHeld_15 : decode cX3_countHeld 15 = .ok (.ifCond .ne 6, 3) := by decide +kernel
theorem dX3_countHeld_18 : decode cX3_countHeld 18 = .ok (.iinc 1 1, 3) := by decide +kernel
theorem dX3_countHeld_21 : decode cX3_countHeld 21 = .ok (.iinc 2 1, 3) := by decide +kernel
theorem dX3_countHeld_24 : decode cX3_countHeld 24 = .ok (.goto (-20), 3) := by decide +kernel
theorem dX3_countHeld_27 : decode cX3_countHeld 27 = .ok (.iload_n 1, 1) := by decide +kernel
theorem dX3_countHeld_28 : decode cX3_countHeld 28 = .ok (.ireturn, 1) := by decide +kernel
theorem dX3_dropBridgesFrom_0 : decode cX3_dropBridgesFrom 0 = .ok (.iconst 0, 1) := by decide +kernel
theorem dX3_dropBridgesFrom_1 : decode cX3_dropBridgesFrom 1 = .ok (.istore_n 2, 1) := by decide +kernel
theorem dX3_dropBridgesFrom_2 : decode cX3_dropBridgesFrom 2 = .ok (.iload_n 2, 1) := by decide +kernel
theorem dX3_dropBridgesFrom_3 : decode cX3_dropBridgesFrom 3 = .ok (.bipush 8, 2) := by decide +kernel
theorem dX3_dropBridgesFrom_5 : decode cX3_dropBridgesFrom 5 = .ok (.if_icmp .ge 28, 3) := by decide +kernel
theorem dX3_dropBridgesFrom_8 : decode cX3_dropBridgesFrom 8 = .ok (.aload_n 0, 1) := by decide +kernel
theorem dX3_dropBridgesFrom_9 : decode cX3_dropBridgesFrom 9 = .ok (.getfield 9, 3) := by decide +kernel
theorem dX3_dropBridgesFrom_12 : decode cX3_dropBridgesFrom 12 = .ok (.iload_n 2, 1) := by decide +kernel
theorem dX3_dropBridgesFrom_13 : decode cX3_dropBridgesFrom 13 = .ok (.iaload, 1) := by decide +kernel
theorem dX3_dropBridgesFrom_14 : decode cX3_dropBridgesFrom 14 = .ok (.bipush 10, 2) := by decide +kernel
theorem dX3_dropBridgesFrom_16 : decode cX3_dropBridgesFrom 16 = .ok (.iload_n 1, 1) := by decide +kernel
theorem dX3_dropBridgesFrom_17 : decode cX3_dropBridgesFrom 17 = .ok (.iadd, 1) := by decide +kernel
theorem dX3_dropBridgesFrom_18 : decode cX3_dropBridgesFrom 18 = .ok (.if_icmp .lt 9, 3) := by decide +kernel
theorem dX3_dropBridgesFrom_21 : decode cX3_dropBridgesFrom 21 = .ok (.aload_n 0, 1) := by decide +kernel
theorem dX3_dropBridgesFrom_22 : decode cX3_dropBridgesFrom 22 = .ok (.iload_n 2, 1) := by decide +kernel
theorem dX3_dropBridgesFrom_23 : decode cX3_dropBridgesFrom 23 = .ok (.iconst (-1), 1) := by decide +kernel
theorem dX3_dropBridgesFrom_24 : decode cX3_dropBridgesFrom 24 = .ok (.invokevirtual 32, 3) := by decide +kernel
theorem dX3_dropBridgesFrom_27 : decode cX3_dropBridgesFrom 27 = .ok (.iinc 2 1, 3) := by decide +kernel
theorem dX3_dropBridgesFrom_30 : decode cX3_dropBridgesFrom 30 = .ok (.goto (-28), 3) := by decide +kernel
theorem dX3_dropBridgesFrom_33 : decode cX3_dropBridgesFrom 33 = .ok (.return_, 1) := by decide +kernel
theorem dX3_elementAt_0 : decode cX3_elementAt 0 = .ok (.iload_n 2, 1) := by decide +kernel
theorem dX3_elementAt_1 : decode cX3_elementAt 1 = .ok (.iconst 0, 1) := by decide +kernel
theorem dX3_elementAt_2 : decode cX3_elementAt 2 = .ok (.aload_n 0, 1) := by decide +kernel
theorem dX3_elementAt_3 : decode cX3_elementAt 3 = .ok (.getfield 15, 3) := by decide +kernel
theorem dX3_elementAt_6 : decode cX3_elementAt 6 = .ok (.iload_n 1, 1) := by decide +kernel
theorem dX3_elementAt_7 : decode cX3_elementAt 7 = .ok (.iaload, 1) := by decide +kernel
theorem dX3_elementAt_8 : decode cX3_elementAt 8 = .ok (.iconst 1, 1) := by decide +kernel
theorem dX3_elementAt_9 : decode cX3_elementAt 9 = .ok (.isub, 1) := by decide +kernel
theorem dX3_elementAt_10 : decode cX3_elementAt 10 = .ok (.invokestatic 36, 3) := by decide +kernel
theorem dX3_elementAt_13 : decode cX3_elementAt 13 = .ok (.ifCond .eq 17, 3) := by decide +kernel
theorem dX3_elementAt_16 : decode cX3_elementAt 16 = .ok (.aload_n 0, 1) := by decide +kernel
theorem dX3_elementAt_17 : decode cX3_elementAt 17 = .ok (.getfield 18, 3) := by decide +kernel
theorem dX3_elementAt_20 : decode cX3_elementAt 20 = .ok (.iload_n 1, 1) := by decide +kernel
theorem dX3_elementAt_21 : decode cX3_elementAt 21 = .ok (.bipush 40, 2) := by decide +kernel
theorem dX3_elementAt_23 : decode cX3_elementAt 23 = .ok (.imul, 1) := by decide +kernel
theorem dX3_elementAt_24 : decode cX3_elementAt 24 = .ok (.iload_n 2, 1) := by decide +kernel
theorem dX3_elementAt_25 : decode cX3_elementAt 25 = .ok (.iadd, 1) := by decide +kernel
theorem dX3_elementAt_26 : decode cX3_elementAt 26 = .ok (.laload, 1) := by decide +kernel
theorem dX3_elementAt_27 : decode cX3_elementAt 27 = .ok (.goto 4, 3) := by decide +kernel
theorem dX3_elementAt_30 : decode cX3_elementAt 30 = .ok (.lconst 0, 1) := by decide +kernel
theorem dX3_elementAt_31 : decode cX3_elementAt 31 = .ok (.lreturn, 1) := by decide +kernel
theorem dX3_holdsBridge_0 : decode cX3_holdsBridge 0 = .ok (.aload_n 0, 1) := by decide +kernel
theorem dX3_holdsBridge_1 : decode cX3_holdsBridge 1 = .ok (.getfield 9, 3) := by decide +kernel
theorem dX3_holdsBridge_4 : decode cX3_holdsBridge 4 = .ok (.iload_n 1, 1) := by decide +kernel
theorem dX3_holdsBridge_5 : decode cX3_holdsBridge 5 = .ok (.iaload, 1) := by decide +kernel
theorem dX3_holdsBridge_6 : decode cX3_holdsBridge 6 = .ok (.bipush 10, 2) := by decide +kernel
theorem dX3_holdsBridge_8 : decode cX3_holdsBridge 8 = .ok (.if_icmp .lt 7, 3) := by decide +kernel
theorem dX3_holdsBridge_11 : decode cX3_holdsBridge 11 = .ok (.iconst 1, 1) := by decide +kernel
theorem dX3_holdsBridge_12 : decode cX3_holdsBridge 12 = .ok (.goto 4, 3) := by decide +kernel
theorem dX3_holdsBridge_15 : decode cX3_holdsBridge 15 = .ok (.iconst 0, 1) := by decide +kernel
theorem dX3_holdsBridge_16 : decode cX3_holdsBridge 16 = .ok (.ireturn, 1) := by decide +kernel
theorem dX3_holdsNothing_0 : decode cX3_holdsNothing 0 = .ok (.aload_n 0, 1) := by decide +kernel
theorem dX3_holdsNothing_1 : decode cX3_holdsNothing 1 = .ok (.getfield 9, 3) := by decide +kernel
theorem dX3_holdsNothing_4 : decode cX3_holdsNothing 4 = .ok (.iload_n 1, 1) := by decide +kernel
theorem dX3_holdsNothing_5 : decode cX3_holdsNothing 5 = .ok (.iaload, 1) := by decide +kernel
theorem dX3_holdsNothing_6 : decode cX3_holdsNothing 6 = .ok (.iconst (-1), 1) := by decide +kernel
theorem dX3_holdsNothing_7 : decode cX3_holdsNothing 7 = .ok (.if_icmp .ne 7, 3) := by decide +kernel
theorem dX3_holdsNothing_10 : decode cX3_holdsNothing 10 = .ok (.iconst 1, 1) := by decide +kernel
theorem dX3_holdsNothing_11 : decode cX3_holdsNothing 11 = .ok (.goto 4, 3) := by decide +kernel
theorem dX3_holdsNothing_14 : decode cX3_holdsNothing 14 = .ok (.iconst 0, 1) := by decide +kernel
theorem dX3_holdsNothing_15 : decode cX3_holdsNothing 15 = .ok (.ireturn, 1) := by decide +kernel
theorem dX3_holdsRow_0 : decode cX3_holdsRow 0 = .ok (.aload_n 0, 1) := by decide +kernel
theorem dX3_holdsRow_1 : decode cX3_holdsRow 1 = .ok (.iload_n 1, 1) := by decide +kernel
theorem dX3_holdsRow_2 : decode cX3_holdsRow 2 = .ok (.invokevirtual 22, 3) := by decide +kernel
theorem dX3_holdsRow_5 : decode cX3_holdsRow 5 = .ok (.ifCond .ne 15, 3) := by decide +kernel
theorem dX3_holdsRow_8 : decode cX3_holdsRow 8 = .ok (.aload_n 0, 1) := by decide +kernel
theorem dX3_holdsRow_9 : decode cX3_holdsRow 9 = .ok (.iload_n 1, 1) := by decide +kernel
theorem dX3_holdsRow_10 : decode cX3_holdsRow 10 = .ok (.invokevirtual 26, 3) := by decide +kernel
theorem dX3_holdsRow_13 : decode cX3_holdsRow 13 = .ok (.ifCond .ne 7, 3) := by decide +kernel
theorem dX3_holdsRow_16 : decode cX3_holdsRow 16 = .ok (.iconst 1, 1) := by decide +kernel
theorem dX3_holdsRow_17 : decode cX3_holdsRow 17 = .ok (.goto 4, 3) := by decide +kernel
theorem dX3_holdsRow_20 : decode cX3_holdsRow 20 = .ok (.iconst 0, 1) := by decide +kernel
theorem dX3_holdsRow_21 : decode cX3_holdsRow 21 = .ok (.ireturn, 1) := by decide +kernel
theorem dX3_holdsUnlikeRows_0 : decode cX3_holdsUnlikeRows 0 = .ok (.aload_n 0, 1) := by decide +kernel
theorem dX3_holdsUnlikeRows_1 : decode cX3_holdsUnlikeRows 1 = .ok (.iload_n 1, 1) := by decide +kernel
theorem dX3_holdsUnlikeRows_2 : decode cX3_holdsUnlikeRows 2 = .ok (.invokevirtual 29, 3) := by decide +kernel
theorem dX3_holdsUnlikeRows_5 : decode cX3_holdsUnlikeRows 5 = .ok (.ifCond .eq 30, 3) := by decide +kernel
theorem dX3_holdsUnlikeRows_8 : decode cX3_holdsUnlikeRows 8 = .ok (.aload_n 0, 1) := by decide +kernel
theorem dX3_holdsUnlikeRows_9 : decode cX3_holdsUnlikeRows 9 = .ok (.iload_n 2, 1) := by decide +kernel
theorem dX3_holdsUnlikeRows_10 : decode cX3_holdsUnlikeRows 10 = .ok (.invokevirtual 29, 3) := by decide +kernel
theorem dX3_holdsUnlikeRows_13 : decode cX3_holdsUnlikeRows 13 = .ok (.ifCond .eq 22, 3) := by decide +kernel
theorem dX3_holdsUnlikeRows_16 : decode cX3_holdsUnlikeRows 16 = .ok (.aload_n 0, 1) := by decide +kernel
theorem dX3_holdsUnlikeRows_17 : decode cX3_holdsUnlikeRows 17 = .ok (.getfield 9, 3) := by decide +kernel
theorem dX3_holdsUnlikeRows_20 : decode cX3_holdsUnlikeRows 20 = .ok (.iload_n 1, 1) := by decide +kernel
theorem dX3_holdsUnlikeRows_21 : decode cX3_holdsUnlikeRows 21 = .ok (.iaload, 1) := by decide +kernel
theorem dX3_holdsUnlikeRows_22 : decode cX3_holdsUnlikeRows 22 = .ok (.aload_n 0, 1) := by decide +kernel
theorem dX3_holdsUnlikeRows_23 : decode cX3_holdsUnlikeRows 23 = .ok (.getfield 9, 3) := by decide +kernel
theorem dX3_holdsUnlikeRows_26 : decode cX3_holdsUnlikeRows 26 = .ok (.iload_n 2, 1) := by decide +kernel
theorem dX3_holdsUnlikeRows_27 : decode cX3_holdsUnlikeRows 27 = .ok (.iaload, 1) := by decide +kernel
theorem dX3_holdsUnlikeRows_28 : decode cX3_holdsUnlikeRows 28 = .ok (.if_icmp .eq 7, 3) := by decide +kernel
theorem dX3_holdsUnlikeRows_31 : decode cX3_holdsUnlikeRows 31 = .ok (.iconst 1, 1) := by decide +kernel
theorem dX3_holdsUnlikeRows_32 : decode cX3_holdsUnlikeRows 32 = .ok (.goto 4, 3) := by decide +kernel
theorem dX3_holdsUnlikeRows_35 : decode cX3_holdsUnlikeRows 35 = .ok (.iconst 0, 1) := by decide +kernel
theorem dX3_holdsUnlikeRows_36 : decode cX3_holdsUnlikeRows 36 = .ok (.ireturn, 1) := by decide +kernel
theorem dX3_putBridge_0 : decode cX3_putBridge 0 = .ok (.aload_n 0, 1) := by decide +kernel
theorem dX3_putBridge_1 : decode cX3_putBridge 1 = .ok (.getfield 9, 3) := by decide +kernel
theorem dX3_putBridge_4 : decode cX3_putBridge 4 = .ok (.iload_n 1, 1) := by decide +kernel
theorem dX3_putBridge_5 : decode cX3_putBridge 5 = .ok (.iload_n 2, 1) := by decide +kernel
theorem dX3_putBridge_6 : decode cX3_putBridge 6 = .ok (.iconst (-1), 1) := by decide +kernel
theorem dX3_putBridge_7 : decode cX3_putBridge 7 = .ok (.if_icmp .ne 7, 3) := by decide +kernel
theorem dX3_putBridge_10 : decode cX3_putBridge 10 = .ok (.iconst (-1), 1) := by decide +kernel
theorem dX3_putBridge_11 : decode cX3_putBridge 11 = .ok (.goto 7, 3) := by decide +kernel
theorem dX3_putBridge_14 : decode cX3_putBridge 14 = .ok (.bipush 10, 2) := by decide +kernel
theorem dX3_putBridge_16 : decode cX3_putBridge 16 = .ok (.iload_n 2, 1) := by decide +kernel
theorem dX3_putBridge_17 : decode cX3_putBridge 17 = .ok (.iadd, 1) := by decide +kernel
theorem dX3_putBridge_18 : decode cX3_putBridge 18 = .ok (.iastore, 1) := by decide +kernel
theorem dX3_putBridge_19 : decode cX3_putBridge 19 = .ok (.aload_n 0, 1) := by decide +kernel
theorem dX3_putBridge_20 : decode cX3_putBridge 20 = .ok (.getfield 15, 3) := by decide +kernel
theorem dX3_putBridge_23 : decode cX3_putBridge 23 = .ok (.iload_n 1, 1) := by decide +kernel
theorem dX3_putBridge_24 : decode cX3_putBridge 24 = .ok (.iconst 0, 1) := by decide +kernel
theorem dX3_putBridge_25 : decode cX3_putBridge 25 = .ok (.iastore, 1) := by decide +kernel
theorem dX3_putBridge_26 : decode cX3_putBridge 26 = .ok (.return_, 1) := by decide +kernel
theorem dX3_putElement_0 : decode cX3_putElement 0 = .ok (.aload_n 0, 1) := by decide +kernel
theorem dX3_putElement_1 : decode cX3_putElement 1 = .ok (.getfield 18, 3) := by decide +kernel
theorem dX3_putElement_4 : decode cX3_putElement 4 = .ok (.iload_n 1, 1) := by decide +kernel
theorem dX3_putElement_5 : decode cX3_putElement 5 = .ok (.bipush 40, 2) := by decide +kernel
theorem dX3_putElement_7 : decode cX3_putElement 7 = .ok (.imul, 1) := by decide +kernel
theorem dX3_putElement_8 : decode cX3_putElement 8 = .ok (.iload_n 2, 1) := by decide +kernel
theorem dX3_putElement_9 : decode cX3_putElement 9 = .ok (.iadd, 1) := by decide +kernel
theorem dX3_putElement_10 : decode cX3_putElement 10 = .ok (.aload_n 0, 1) := by decide +kernel
theorem dX3_putElement_11 : decode cX3_putElement 11 = .ok (.getfield 9, 3) := by decide +kernel
theorem dX3_putElement_14 : decode cX3_putElement 14 = .ok (.iload_n 1, 1) := by decide +kernel
theorem dX3_putElement_15 : decode cX3_putElement 15 = .ok (.iaload, 1) := by decide +kernel
theorem dX3_putElement_16 : decode cX3_putElement 16 = .ok (.lload_n 3, 1) := by decide +kernel
theorem dX3_putElement_17 : decode cX3_putElement 17 = .ok (.invokestatic 40, 3) := by decide +kernel
theorem dX3_putElement_20 : decode cX3_putElement 20 = .ok (.lastore, 1) := by decide +kernel
theorem dX3_putElement_21 : decode cX3_putElement 21 = .ok (.return_, 1) := by decide +kernel
theorem dX3_putRow_0 : decode cX3_putRow 0 = .ok (.aload_n 0, 1) := by decide +kernel
theorem dX3_putRow_1 : decode cX3_putRow 1 = .ok (.getfield 9, 3) := by decide +kernel
theorem dX3_putRow_4 : decode cX3_putRow 4 = .ok (.iload_n 1, 1) := by decide +kernel
theorem dX3_putRow_5 : decode cX3_putRow 5 = .ok (.iload_n 2, 1) := by decide +kernel
theorem dX3_putRow_6 : decode cX3_putRow 6 = .ok (.iastore, 1) := by decide +kernel
theorem dX3_putRow_7 : decode cX3_putRow 7 = .ok (.aload_n 0, 1) := by decide +kernel
theorem dX3_putRow_8 : decode cX3_putRow 8 = .ok (.getfield 15, 3) := by decide +kernel
theorem dX3_putRow_11 : decode cX3_putRow 11 = .ok (.iload_n 1, 1) := by decide +kernel
theorem dX3_putRow_12 : decode cX3_putRow 12 = .ok (.iload_n 3, 1) := by decide +kernel
theorem dX3_putRow_13 : decode cX3_putRow 13 = .ok (.iastore, 1) := by decide +kernel
theorem dX3_putRow_14 : decode cX3_putRow 14 = .ok (.iconst 0, 1) := by decide +kernel
theorem dX3_putRow_15 : decode cX3_putRow 15 = .ok (.istore 4, 2) := by decide +kernel
theorem dX3_putRow_17 : decode cX3_putRow 17 = .ok (.iload 4, 2) := by decide +kernel
theorem dX3_putRow_19 : decode cX3_putRow 19 = .ok (.iload_n 3, 1) := by decide +kernel
theorem dX3_putRow_20 : decode cX3_putRow 20 = .ok (.if_icmp .ge 22, 3) := by decide +kernel
theorem dX3_putRow_23 : decode cX3_putRow 23 = .ok (.aload_n 0, 1) := by decide +kernel
theorem dX3_putRow_24 : decode cX3_putRow 24 = .ok (.getfield 18, 3) := by decide +kernel
theorem dX3_putRow_27 : decode cX3_putRow 27 = .ok (.iload_n 1, 1) := by decide +kernel
theorem dX3_putRow_28 : decode cX3_putRow 28 = .ok (.bipush 40, 2) := by decide +kernel
theorem dX3_putRow_30 : decode cX3_putRow 30 = .ok (.imul, 1) := by decide +kernel
theorem dX3_putRow_31 : decode cX3_putRow 31 = .ok (.iload 4, 2) := by decide +kernel
theorem dX3_putRow_33 : decode cX3_putRow 33 = .ok (.iadd, 1) := by decide +kernel
theorem dX3_putRow_34 : decode cX3_putRow 34 = .ok (.lconst 0, 1) := by decide +kernel
theorem dX3_putRow_35 : decode cX3_putRow 35 = .ok (.lastore, 1) := by decide +kernel
theorem dX3_putRow_36 : decode cX3_putRow 36 = .ok (.iinc 4 1, 3) := by decide +kernel
theorem dX3_putRow_39 : decode cX3_putRow 39 = .ok (.goto (-22), 3) := by decide +kernel
theorem dX3_putRow_42 : decode cX3_putRow 42 = .ok (.return_, 1) := by decide +kernel

