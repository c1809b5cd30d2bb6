theorem q_29 : Cond.selects RX7 yX7_refuse yX7_refuse ∈ oh_t := oh_of (i := 29) (by decide +kernel) rfl
theorem q_30 : Cond.selects RX7 yX7_isBridge yX7_isBridge ∈ oh_t := oh_of (i := 30) (by decide +kernel) rfl
theorem q_36 : Cond.selects RX7 yX7_isRoad yX7_isRoad ∈ oh_t := oh_of (i := 36) (by decide +kernel) rfl
theorem q_48 : Cond.selects RX7 yX7_isWaggon yX7_isWaggon ∈ oh_t := oh_of (i := 48) (by decide +kernel) rfl
theorem q_50 : Cond.selects RX7 yX7_isPack yX7_isPack ∈ oh_t := oh_of (i := 50) (by decide +kernel) rfl
theorem q_62 : Cond.selects RX7 yX7_noWay yX7_noWay ∈ oh_t := oh_of (i := 62) (by decide +kernel) rfl
theorem q_73 : Cond.initialized RX7 ∈ oh_t := oh_of (i := 73) (by decide +kernel) rfl
theorem q_973 : Cond.fieldLink RX7 7 "OneHeavyLoadModel" "shelf" "[I" ∈ oh_t := oh_of (i := 973) (by decide +kernel) rfl
theorem q_978 : Cond.fieldLink RX7 28 "OneHeavyLoadModel" "shown" "[I" ∈ oh_t := oh_of (i := 978) (by decide +kernel) rfl
theorem q_980 : Cond.fieldLink RX7 140 "OneHeavyLoadModel" "tapeSize" "I" ∈ oh_t := oh_of (i := 980) (by decide +kernel) rfl
theorem q_981 : Cond.fieldLink RX7 34 "OneHeavyLoadModel" "refused" "[I" ∈ oh_t := oh_of (i := 981) (by decide +kernel) rfl
theorem q_982 : Cond.fieldLink RX7 66 "OneHeavyLoadModel" "roads" "I" ∈ oh_t := oh_of (i := 982) (by decide +kernel) rfl
theorem q_984 : Cond.fieldLink RX7 70 "OneHeavyLoadModel" "bridges" "I" ∈ oh_t := oh_of (i := 984) (by decide +kernel) rfl
theorem q_986 : Cond.fieldLink RX7 73 "OneHeavyLoadModel" "waggons" "I" ∈ oh_t := oh_of (i := 986) (by decide +kernel) rfl
theorem q_991 : Cond.fieldLink RX7 54 "OneHeavyLoadModel" "under" "[I" ∈ oh_t := oh_of (i := 991) (by decide +kernel) rfl
theorem q_993 : Cond.fieldLink RX7 335 "OneHeavyLoadModel" "kept" "LOneHeavyLoadModel;" ∈ oh_t := oh_of (i := 993) (by decide +kernel) rfl
theorem q_1065 : Cond.constantLong RX7 83 7 ∈ oh_t := oh_of (i := 1065) (by decide +kernel) rfl
theorem q_1066 : Cond.methodLink RX7 62 yX7_in ∈ oh_t := oh_of (i := 1066) (by decide +kernel) rfl
theorem q_1067 : Cond.static yX7_in ∈ oh_t := oh_of (i := 1067) (by decide +kernel) rfl
theorem q_1068 : Cond.code yX7_in cX7_in 6 (some .boolean) ∈ oh_t := oh_of (i := 1068) (by decide +kernel) rfl
theorem q_1069 : Cond.constantLong RX7 85 4 ∈ oh_t := oh_of (i := 1069) (by decide +kernel) rfl
theorem q_1071 : Cond.methodLink RX7 89 yX7_refuse ∈ oh_t := oh_of (i := 1071) (by decide +kernel) rfl
theorem q_1073 : Cond.instanceMethod yX7_refuse ∈ oh_t := oh_of (i := 1073) (by decide +kernel) rfl
theorem q_1074 : Cond.code yX7_refuse cX7_refuse 2 (some .int) ∈ oh_t := oh_of (i := 1074) (by decide +kernel) rfl
theorem q_1098 : Cond.methodLink RX7 97 yX7_isBridge ∈ oh_t := oh_of (i := 1098) (by decide +kernel) rfl
theorem q_1100 : Cond.instanceMethod yX7_isBridge ∈ oh_t := oh_of (i := 1100) (by decide +kernel) rfl
theorem q_1101 : Cond.code yX7_isBridge cX7_isBridge 2 (some .boolean) ∈ oh_t := oh_of (i := 1101) (by decide +kernel) rfl
theorem q_1106 : Cond.constantLong RX7 100 5 ∈ oh_t := oh_of (i := 1106) (by decide +kernel) rfl
theorem q_1130 : Cond.methodLink RX7 113 yX7_isPlace ∈ oh_t := oh_of (i := 1130) (by decide +kernel) rfl
theorem q_1131 : Cond.static yX7_isPlace ∈ oh_t := oh_of (i := 1131) (by decide +kernel) rfl
theorem q_1132 : Cond.code yX7_isPlace cX7_isPlace 1 (some .boolean) ∈ oh_t := oh_of (i := 1132) (by decide +kernel) rfl
theorem q_1133 : Cond.constantLong RX7 60 15 ∈ oh_t := oh_of (i := 1133) (by decide +kernel) rfl
theorem q_1145 : Cond.methodLink RX7 126 yX7_isRoad ∈ oh_t := oh_of (i := 1145) (by decide +kernel) rfl
theorem q_1147 : Cond.instanceMethod yX7_isRoad ∈ oh_t := oh_of (i := 1147) (by decide +kernel) rfl
theorem q_1148 : Cond.code yX7_isRoad cX7_isRoad 2 (some .boolean) ∈ oh_t := oh_of (i := 1148) (by decide +kernel) rfl
theorem q_1162 : Cond.constantLong RX7 134 2 ∈ oh_t := oh_of (i := 1162) (by decide +kernel) rfl
theorem q_1278 : Cond.methodLink RX7 76 yX7_isWaggon ∈ oh_t := oh_of (i := 1278) (by decide +kernel) rfl
theorem q_1280 : Cond.instanceMethod yX7_isWaggon ∈ oh_t := oh_of (i := 1280) (by decide +kernel) rfl
theorem q_1281 : Cond.code yX7_isWaggon cX7_isWaggon 2 (some .boolean) ∈ oh_t := oh_of (i := 1281) (by decide +kernel) rfl
theorem q_1290 : Cond.methodLink RX7 260 yX7_isPack ∈ oh_t := oh_of (i := 1290) (by decide +kernel) rfl
theorem q_1292 : Cond.instanceMethod yX7_isPack ∈ oh_t := oh_of (i := 1292) (by decide +kernel) rfl
theorem q_1293 : Cond.code yX7_isPack cX7_isPack 3 (some .boolean) ∈ oh_t := oh_of (i := 1293) (by decide +kernel) rfl
theorem q_1342 : Cond.methodLink RX7 301 yX7_again ∈ oh_t := oh_of (i := 1342) (by decide +kernel) rfl
theorem q_1343 : Cond.instanceMethod yX7_again ∈ oh_t := oh_of (i := 1343) (by decide +kernel) rfl
theorem q_1344 : Cond.selects RX7 yX7_again yX7_again ∈ oh_t := oh_of (i := 1344) (by decide +kernel) rfl
theorem q_1345 : Cond.code yX7_again cX7_again 7 (some .int) ∈ oh_t := oh_of (i := 1345) (by decide +kernel) rfl
theorem q_1373 : Cond.methodLink RX7 313 yX7_noWay ∈ oh_t := oh_of (i := 1373) (by decide +kernel) rfl
theorem q_1375 : Cond.instanceMethod yX7_noWay ∈ oh_t := oh_of (i := 1375) (by decide +kernel) rfl
theorem q_1376 : Cond.code yX7_noWay cX7_noWay 6 (some .int) ∈ oh_t := oh_of (i := 1376) (by decide +kernel) rfl
theorem q_1385 : Cond.constantLong RX7 319 3 ∈ oh_t := oh_of (i := 1385) (by decide +kernel) rfl
theorem pdVX7_again : yX7_again.cls = RX7 ∧ yX7_again.cls ≠ "java/lang/invoke/MethodHandle" ∧ yX7_again.cls ≠ "java/lang/invoke/VarHandle" ∧ (parseMethodDescriptor yX7_again.desc).map (fun d => d.parameters.length) = some 5 := by decide +kernel
theorem pdX7_in : yX7_in.cls ≠ "java/lang/invoke/MethodHandle" ∧ yX7_in.cls ≠ "java/lang/invoke/VarHandle" ∧ (parseMethodDescriptor yX7_in.desc).map (fun d => d.parameters.length) = some 3 := by decide +kernel
theorem pdVX7_isBridge : yX7_isBridge.cls = RX7 ∧ yX7_isBridge.cls ≠ "java/lang/invoke/MethodHandle" ∧ yX7_isBridge.cls ≠ "java/lang/invoke/VarHandle" ∧ (parseMethodDescriptor yX7_isBridge.desc).map (fun d => d.parameters.length) = some 1 := by decide +kernel
theorem pdVX7_isPack : yX7_isPack.cls = RX7 ∧ yX7_isPack.cls ≠ "java/lang/invoke/MethodHandle" ∧ yX7_isPack.cls ≠ "java/lang/invoke/VarHandle" ∧ (parseMethodDescriptor yX7_isPack.desc).map (fun d => d.parameters.length) = some 2 := by decide +kernel
theorem pdX7_isPlace : yX7_isPlace.cls ≠ "java/lang/invoke/MethodHandle" ∧ yX7_isPlace.cls ≠ "java/lang/invoke/VarHandle" ∧ (parseMethodDescriptor yX7_isPlace.desc).map (fun d => d.parameters.length) = some 1 := by decide +kernel
theorem pdVX7_isRoad : yX7_isRoad.cls = RX7 ∧ yX7_isRoad.cls ≠ "java/lang/invoke/MethodHandle" ∧ yX7_isRoad.cls ≠ "java/lang/invoke/VarHandle" ∧ (parseMethodDescriptor yX7_isRoad.desc).map (fun d => d.parameters.length) = some 1 := by decide +kernel
theorem pdVX7_isWaggon : yX7_isWaggon.cls = RX7 ∧ yX7_isWaggon.cls ≠ "java/lang/invoke/MethodHandle" ∧ yX7_isWaggon.cls ≠ "java/lang/invoke/VarHandle" ∧ (parseMethodDescriptor yX7_isWaggon.desc).map (fun d => d.parameters.length) = some 1 := by decide +kernel
theorem pdVX7_noWay : yX7_noWay.cls = RX7 ∧ yX7_noWay.cls ≠ "java/lang/invoke/MethodHandle" ∧ yX7_noWay.cls ≠ "java/lang/invoke/VarHandle" ∧ (parseMethodDescriptor yX7_noWay.desc).map (fun d => d.parameters.length) = some 5 := by decide +kernel
theorem pdVX7_refuse : yX7_refuse.cls = RX7 ∧ yX7_refuse.cls ≠ "java/lang/invoke/MethodHandle" ∧ yX7_refuse.cls ≠ "java/lang/invoke/VarHandle" ∧ (parseMethodDescriptor yX7_refuse.desc).map (fun d => d.parameters.length) = some 1 := by decide +kernel
theorem dX7_again_0 : decode cX7_again 0 = .ok (.aload_n 0, 1) := by decide +kernel
theorem dX7_again_1 : decode cX7_again 1 = .ok (.iload_n 1, 1) := by decide +kernel
theorem dX7_again_2 : decode cX7_again 2 = .ok (.iload_n 2, 1) := by decide +kernel
theorem dX7_again_3 : decode cX7_again 3 = .ok (.invokevirtual 260, 3) := by decide +kernel
theorem dX7_again_6 : decode cX7_again 6 = .ok (.ifCond .eq 31, 3) := by decide +kernel
theorem dX7_again_37 : decode cX7_again 37 = .ok (.aload_n 0, 1) := by decide +kernel
theorem dX7_again_38 : decode cX7_again 38 = .ok (.bipush (-2), 2) := by decide +kernel
theorem dX7_again_40 : decode cX7_again 40 = .ok (.invokevirtual 89, 3) := by decide +kernel
theorem dX7_again_43 : decode cX7_again 43 = .ok (.ireturn, 1) := by decide +kernel
theorem dX7_axle_0 : decode cX7_axle 0 = .ok (.aload_n 0, 1) := by decide +kernel
theorem dX7_axle_1 : decode cX7_axle 1 = .ok (.iload_n 1, 1) := by decide +kernel
theorem dX7_axle_2 : decode cX7_axle 2 = .ok (.iload_n 2, 1) := by decide +kernel
theorem dX7_axle_3 : decode cX7_axle 3 = .ok (.invokevirtual 260, 3) := by decide +kernel
theorem dX7_axle_6 : decode cX7_axle 6 = .ok (.ifCond .eq 12, 3) := by decide +kernel
theorem dX7_axle_18 : decode cX7_axle 18 = .ok (.aload_n 0, 1) := by decide +kernel
theorem dX7_axle_19 : decode cX7_axle 19 = .ok (.bipush (-2), 2) := by decide +kernel
theorem dX7_axle_21 : decode cX7_axle 21 = .ok (.invokevirtual 89, 3) := by decide +kernel
theorem dX7_axle_24 : decode cX7_axle 24 = .ok (.ireturn, 1) := by decide +kernel
theorem dX7_back_0 : decode cX7_back 0 = .ok (.aload_n 0, 1) := by decide +kernel
theorem dX7_back_1 : decode cX7_back 1 = .ok (.getfield 335, 3) := by decide +kernel
theorem dX7_back_4 : decode cX7_back 4 = .ok (.ifnonnull 10, 3) := by decide +kernel
theorem dX7_back_7 : decode cX7_back 7 = .ok (.aload_n 0, 1) := by decide +kernel
theorem dX7_back_8 : decode cX7_back 8 = .ok (.bipush (-5), 2) := by decide +kernel
theorem dX7_back_10 : decode cX7_back 10 = .ok (.invokevirtual 89, 3) := by decide +kernel
theorem dX7_back_13 : decode cX7_back 13 = .ok (.ireturn, 1) := by decide +kernel
theorem dX7_bears_0 : decode cX7_bears 0 = .ok (.aload_n 0, 1) := by decide +kernel
theorem dX7_bears_1 : decode cX7_bears 1 = .ok (.iload_n 1, 1) := by decide +kernel
theorem dX7_bears_2 : decode cX7_bears 2 = .ok (.invokevirtual 97, 3) := by decide +kernel
theorem dX7_bears_5 : decode cX7_bears 5 = .ok (.ifCond .ne 10, 3) := by decide +kernel
theorem dX7_bears_8 : decode cX7_bears 8 = .ok (.aload_n 0, 1) := by decide +kernel
theorem dX7_bears_9 : decode cX7_bears 9 = .ok (.bipush (-2), 2) := by decide +kernel
theorem dX7_bears_11 : decode cX7_bears 11 = .ok (.invokevirtual 89, 3) := by decide +kernel
theorem dX7_bears_14 : decode cX7_bears 14 = .ok (.ireturn, 1) := by decide +kernel
theorem dX7_begin_0 : decode cX7_begin 0 = .ok (.aload_n 0, 1) := by decide +kernel
theorem dX7_begin_1 : decode cX7_begin 1 = .ok (.iload_n 1, 1) := by decide +kernel
theorem dX7_begin_2 : decode cX7_begin 2 = .ok (.iload_n 2, 1) := by decide +kernel
theorem dX7_begin_3 : decode cX7_begin 3 = .ok (.invokevirtual 260, 3) := by decide +kernel
theorem dX7_begin_6 : decode cX7_begin 6 = .ok (.ifCond .eq 18, 3) := by decide +kernel
theorem dX7_begin_24 : decode cX7_begin 24 = .ok (.aload_n 0, 1) := by decide +kernel
theorem dX7_begin_25 : decode cX7_begin 25 = .ok (.bipush (-2), 2) := by decide +kernel
theorem dX7_begin_27 : decode cX7_begin 27 = .ok (.invokevirtual 89, 3) := by decide +kernel
theorem dX7_begin_30 : decode cX7_begin 30 = .ok (.ireturn, 1) := by decide +kernel
theorem dX7_best_0 : decode cX7_best 0 = .ok (.iload_n 1, 1) := by decide +kernel
theorem dX7_best_1 : decode cX7_best 1 = .ok (.invokestatic 113, 3) := by decide +kernel
theorem dX7_best_4 : decode cX7_best 4 = .ok (.ifCond .eq 22, 3) := by decide +kernel
theorem dX7_best_7 : decode cX7_best 7 = .ok (.iload_n 2, 1) := by decide +kernel
theorem dX7_best_8 : decode cX7_best 8 = .ok (.invokestatic 113, 3) := by decide +kernel
theorem dX7_best_11 : decode cX7_best 11 = .ok (.ifCond .eq 15, 3) := by decide +kernel
theorem dX7_best_14 : decode cX7_best 14 = .ok (.iload_n 3, 1) := by decide +kernel
theorem dX7_best_15 : decode cX7_best 15 = .ok (.i2l, 1) := by decide +kernel
theorem dX7_best_16 : decode cX7_best 16 = .ok (.lconst 0, 1) := by decide +kernel
theorem dX7_best_17 : decode cX7_best 17 = .ok (.ldc2_w 134, 3) := by decide +kernel
theorem dX7_best_20 : decode cX7_best 20 = .ok (.invokestatic 62, 3) := by decide +kernel
theorem dX7_best_23 : decode cX7_best 23 = .ok (.ifCond .ne 10, 3) := by decide +kernel
theorem dX7_best_26 : decode cX7_best 26 = .ok (.aload_n 0, 1) := by decide +kernel
theorem dX7_best_27 : decode cX7_best 27 = .ok (.bipush (-2), 2) := by decide +kernel
theorem dX7_best_29 : decode cX7_best 29 = .ok (.invokevirtual 89, 3) := by decide +kernel
theorem dX7_best_32 : decode cX7_best 32 = .ok (.ireturn, 1) := by decide +kernel
theorem dX7_best_33 : decode cX7_best 33 = .ok (.iconst (-1), 1) := by decide +kernel
theorem dX7_best_34 : decode cX7_best 34 = .ok (.istore 4, 2) := by decide +kernel
theorem dX7_best_36 : decode cX7_best 36 = .ok (.iconst 0, 1) := by decide +kernel
theorem dX7_best_37 : decode cX7_best 37 = .ok (.istore 5, 2) := by decide +kernel
theorem dX7_best_39 : decode cX7_best 39 = .ok (.iconst 0, 1) := by decide +kernel
theorem dX7_best_40 : decode cX7_best 40 = .ok (.istore 6, 2) := by decide +kernel
theorem dX7_best_42 : decode cX7_best 42 = .ok (.iload 6, 2) := by decide +kernel
theorem dX7_best_44 : decode cX7_best 44 = .ok (.aload_n 0, 1) := by decide +kernel
theorem dX7_best_45 : decode cX7_best 45 = .ok (.getfield 73, 3) := by decide +kernel
theorem dX7_best_48 : decode cX7_best 48 = .ok (.if_icmp .ge 75, 3) := by decide +kernel
theorem dX7_best_123 : decode cX7_best 123 = .ok (.iload 4, 2) := by decide +kernel
theorem dX7_best_125 : decode cX7_best 125 = .ok (.iconst (-1), 1) := by decide +kernel
theorem dX7_best_126 : decode cX7_best 126 = .ok (.if_icmp .ne 10, 3) := by decide +kernel
theorem dX7_best_129 : decode cX7_best 129 = .ok (.aload_n 0, 1) := by decide +kernel
theorem dX7_best_130 : decode cX7_best 130 = .ok (.bipush (-5), 2) := by decide +kernel
theorem dX7_best_132 : decode cX7_best 132 = .ok (.invokevirtual 89, 3) := by decide +kernel
theorem dX7_best_135 : decode cX7_best 135 = .ok (.ireturn, 1) := by decide +kernel
theorem dX7_bridge_0 : decode cX7_bridge 0 = .ok (.aload_n 0, 1) := by decide +kernel
theorem dX7_bridge_1 : decode cX7_bridge 1 = .ok (.iload_n 1, 1) := by decide +kernel
theorem dX7_bridge_2 : decode cX7_bridge 2 = .ok (.invokevirtual 126, 3) := by decide +kernel
theorem dX7_bridge_5 : decode cX7_bridge 5 = .ok (.ifCond .eq 53, 3) := by decide +kernel
theorem dX7_bridge_58 : decode cX7_bridge 58 = .ok (.aload_n 0, 1) := by decide +kernel
theorem dX7_bridge_59 : decode cX7_bridge 59 = .ok (.bipush (-2), 2) := by decide +kernel
theorem dX7_bridge_61 : decode cX7_bridge 61 = .ok (.invokevirtual 89, 3) := by decide +kernel
theorem dX7_bridge_64 : decode cX7_bridge 64 = .ok (.ireturn, 1) := by decide +kernel
theorem dX7_bridgeOf_0 : decode cX7_bridgeOf 0 = .ok (.aload_n 0, 1) := by decide +kernel
theorem dX7_bridgeOf_1 : decode cX7_bridgeOf 1 = .ok (.iload_n 1, 1) := by decide +kernel
theorem dX7_bridgeOf_2 : decode cX7_bridgeOf 2 = .ok (.invokevirtual 97, 3) := by decide +kernel
theorem dX7_bridgeOf_5 : decode cX7_bridgeOf 5 = .ok (.ifCond .eq 26, 3) := by decide +kernel
theorem dX7_bridgeOf_31 : decode cX7_bridgeOf 31 = .ok (.aload_n 0, 1) := by decide +kernel
theorem dX7_bridgeOf_32 : decode cX7_bridgeOf 32 = .ok (.bipush (-2), 2) := by decide +kernel
theorem dX7_bridgeOf_34 : decode cX7_bridgeOf 34 = .ok (.invokevirtual 89, 3) := by decide +kernel
theorem dX7_bridgeOf_37 : decode cX7_bridgeOf 37 = .ok (.ireturn, 1) := by decide +kernel
theorem dX7_cheapest_0 : decode cX7_cheapest 0 = .ok (.aload_n 0, 1) := by decide +kernel
theorem dX7_cheapest_1 : decode cX7_cheapest 1 = .ok (.iload_n 1, 1) := by decide +kernel
theorem dX7_cheapest_2 : decode cX7_cheapest 2 = .ok (.iload_n 2, 1) := by decide +kernel
theorem dX7_cheapest_3 : decode cX7_cheapest 3 = .ok (.iload_n 3, 1) := by decide +kernel
theorem dX7_cheapest_4 : decode cX7_cheapest 4 = .ok (.iload 4, 2) := by decide +kernel
theorem dX7_cheapest_6 : decode cX7_cheapest 6 = .ok (.iconst 1, 1) := by decide +kernel
theorem dX7_cheapest_7 : decode cX7_cheapest 7 = .ok (.invokevirtual 301, 3) := by decide +kernel
theorem dX7_cheapest_10 : decode cX7_cheapest 10 = .ok (.ireturn, 1) := by decide +kernel
theorem dX7_copy_0 : decode cX7_copy 0 = .ok (.iload_n 1, 1) := by decide +kernel
theorem dX7_copy_1 : decode cX7_copy 1 = .ok (.i2l, 1) := by decide +kernel
theorem dX7_copy_2 : decode cX7_copy 2 = .ok (.lconst 0, 1) := by decide +kernel
theorem dX7_copy_3 : decode cX7_copy 3 = .ok (.ldc2_w 83, 3) := by decide +kernel
theorem dX7_copy_6 : decode cX7_copy 6 = .ok (.invokestatic 62, 3) := by decide +kernel
theorem dX7_copy_9 : decode cX7_copy 9 = .ok (.ifCond .eq 15, 3) := by decide +kernel
theorem dX7_copy_12 : decode cX7_copy 12 = .ok (.iload_n 2, 1) := by decide +kernel
theorem dX7_copy_13 : decode cX7_copy 13 = .ok (.i2l, 1) := by decide +kernel
theorem dX7_copy_14 : decode cX7_copy 14 = .ok (.lconst 0, 1) := by decide +kernel
theorem dX7_copy_15 : decode cX7_copy 15 = .ok (.ldc2_w 83, 3) := by decide +kernel
theorem dX7_copy_18 : decode cX7_copy 18 = .ok (.invokestatic 62, 3) := by decide +kernel
theorem dX7_copy_21 : decode cX7_copy 21 = .ok (.ifCond .ne 10, 3) := by decide +kernel
theorem dX7_copy_24 : decode cX7_copy 24 = .ok (.aload_n 0, 1) := by decide +kernel
theorem dX7_copy_25 : decode cX7_copy 25 = .ok (.bipush (-2), 2) := by decide +kernel
theorem dX7_copy_27 : decode cX7_copy 27 = .ok (.invokevirtual 89, 3) := by decide +kernel
theorem dX7_copy_30 : decode cX7_copy 30 = .ok (.ireturn, 1) := by decide +kernel
theorem dX7_copy_31 : decode cX7_copy 31 = .ok (.aload_n 0, 1) := by decide +kernel
theorem dX7_copy_32 : decode cX7_copy 32 = .ok (.getfield 7, 3) := by decide +kernel
theorem dX7_copy_35 : decode cX7_copy 35 = .ok (.iload_n 1, 1) := by decide +kernel
theorem dX7_copy_36 : decode cX7_copy 36 = .ok (.iaload, 1) := by decide +kernel
theorem dX7_copy_37 : decode cX7_copy 37 = .ok (.iconst 2, 1) := by decide +kernel
theorem dX7_copy_38 : decode cX7_copy 38 = .ok (.if_icmp .eq 48, 3) := by decide +kernel
theorem dX7_copy_41 : decode cX7_copy 41 = .ok (.aload_n 0, 1) := by decide +kernel
theorem dX7_copy_42 : decode cX7_copy 42 = .ok (.getfield 7, 3) := by decide +kernel
theorem dX7_copy_45 : decode cX7_copy 45 = .ok (.iload_n 2, 1) := by decide +kernel
theorem dX7_copy_46 : decode cX7_copy 46 = .ok (.iaload, 1) := by decide +kernel
theorem dX7_copy_47 : decode cX7_copy 47 = .ok (.iconst 2, 1) := by decide +kernel
theorem dX7_copy_48 : decode cX7_copy 48 = .ok (.if_icmp .eq 38, 3) := by decide +kernel
theorem dX7_copy_51 : decode cX7_copy 51 = .ok (.aload_n 0, 1) := by decide +kernel
theorem dX7_copy_52 : decode cX7_copy 52 = .ok (.getfield 7, 3) := by decide +kernel
theorem dX7_copy_55 : decode cX7_copy 55 = .ok (.iload_n 1, 1) := by decide +kernel
theorem dX7_copy_56 : decode cX7_copy 56 = .ok (.iaload, 1) := by decide +kernel
theorem dX7_copy_57 : decode cX7_copy 57 = .ok (.iconst 1, 1) := by decide +kernel
theorem dX7_copy_58 : decode cX7_copy 58 = .ok (.if_icmp .ne 35, 3) := by decide +kernel
theorem dX7_copy_93 : decode cX7_copy 93 = .ok (.aload_n 0, 1) := by decide +kernel
theorem dX7_copy_94 : decode cX7_copy 94 = .ok (.getfield 7, 3) := by decide +kernel
theorem dX7_copy_97 : decode cX7_copy 97 = .ok (.iload_n 1, 1) := by decide +kernel
theorem dX7_copy_98 : decode cX7_copy 98 = .ok (.iaload, 1) := by decide +kernel
theorem dX7_copy_99 : decode cX7_copy 99 = .ok (.ifCond .eq 12, 3) := by decide +kernel
theorem dX7_copy_111 : decode cX7_copy 111 = .ok (.aload_n 0, 1) := by decide +kernel
theorem dX7_copy_112 : decode cX7_copy 112 = .ok (.bipush (-4), 2) := by decide +kernel
theorem dX7_copy_114 : decode cX7_copy 114 = .ok (.invokevirtual 89, 3) := by decide +kernel
theorem dX7_copy_117 : decode cX7_copy 117 = .ok (.ireturn, 1) := by decide +kernel
theorem dX7_element_0 : decode cX7_element 0 = .ok (.iload_n 1, 1) := by decide +kernel
theorem dX7_element_1 : decode cX7_element 1 = .ok (.i2l, 1) := by decide +kernel
theorem dX7_element_2 : decode cX7_element 2 = .ok (.lconst 0, 1) := by decide +kernel
theorem dX7_element_3 : decode cX7_element 3 = .ok (.ldc2_w 83, 3) := by decide +kernel
theorem dX7_element_6 : decode cX7_element 6 = .ok (.invokestatic 62, 3) := by decide +kernel
theorem dX7_element_9 : decode cX7_element 9 = .ok (.ifCond .eq 42, 3) := by decide +kernel
theorem dX7_element_12 : decode cX7_element 12 = .ok (.aload_n 0, 1) := by decide +kernel
theorem dX7_element_13 : decode cX7_element 13 = .ok (.getfield 7, 3) := by decide +kernel
theorem dX7_element_16 : decode cX7_element 16 = .ok (.iload_n 1, 1) := by decide +kernel
theorem dX7_element_17 : decode cX7_element 17 = .ok (.iaload, 1) := by decide +kernel
theorem dX7_element_18 : decode cX7_element 18 = .ok (.iconst 1, 1) := by decide +kernel
theorem dX7_element_19 : decode cX7_element 19 = .ok (.if_icmp .ne 32, 3) := by decide +kernel
theorem dX7_element_51 : decode cX7_element 51 = .ok (.lconst 0, 1) := by decide +kernel
theorem dX7_element_52 : decode cX7_element 52 = .ok (.lreturn, 1) := by decide +kernel
theorem dX7_fewest_0 : decode cX7_fewest 0 = .ok (.aload_n 0, 1) := by decide +kernel
theorem dX7_fewest_1 : decode cX7_fewest 1 = .ok (.iload_n 1, 1) := by decide +kernel
theorem dX7_fewest_2 : decode cX7_fewest 2 = .ok (.invokevirtual 76, 3) := by decide +kernel
theorem dX7_fewest_5 : decode cX7_fewest 5 = .ok (.ifCond .eq 17, 3) := by decide +kernel
theorem dX7_fewest_22 : decode cX7_fewest 22 = .ok (.aload_n 0, 1) := by decide +kernel
theorem dX7_fewest_23 : decode cX7_fewest 23 = .ok (.bipush (-2), 2) := by decide +kernel
theorem dX7_fewest_25 : decode cX7_fewest 25 = .ok (.invokevirtual 89, 3) := by decide +kernel
theorem dX7_fewest_28 : decode cX7_fewest 28 = .ok (.ireturn, 1) := by decide +kernel
theorem dX7_frost_0 : decode cX7_frost 0 = .ok (.aload_n 0, 1) := by decide +kernel
theorem dX7_frost_1 : decode cX7_frost 1 = .ok (.iload_n 1, 1) := by decide +kernel
theorem dX7_frost_2 : decode cX7_frost 2 = .ok (.iload_n 2, 1) := by decide +kernel
theorem dX7_frost_3 : decode cX7_frost 3 = .ok (.invokevirtual 260, 3) := by decide +kernel
theorem dX7_frost_6 : decode cX7_frost 6 = .ok (.ifCond .eq 35, 3) := by decide +kernel
theorem dX7_frost_41 : decode cX7_frost 41 = .ok (.iconst 0, 1) := by decide +kernel
theorem dX7_frost_42 : decode cX7_frost 42 = .ok (.istore 8, 2) := by decide +kernel
theorem dX7_frost_44 : decode cX7_frost 44 = .ok (.iload 8, 2) := by decide +kernel
theorem dX7_frost_46 : decode cX7_frost 46 = .ok (.ifCond .eq 29, 3) := by decide +kernel
theorem dX7_frost_75 : decode cX7_frost 75 = .ok (.aload_n 0, 1) := by decide +kernel
theorem dX7_frost_76 : decode cX7_frost 76 = .ok (.bipush (-2), 2) := by decide +kernel
theorem dX7_frost_78 : decode cX7_frost 78 = .ok (.invokevirtual 89, 3) := by decide +kernel
theorem dX7_frost_81 : decode cX7_frost 81 = .ok (.i2l, 1) := by decide +kernel
theorem dX7_frost_82 : decode cX7_frost 82 = .ok (.lreturn, 1) := by decide +kernel
theorem dX7_goes_0 : decode cX7_goes 0 = .ok (.aload_n 0, 1) := by decide +kernel
theorem dX7_goes_1 : decode cX7_goes 1 = .ok (.iload_n 1, 1) := by decide +kernel
theorem dX7_goes_2 : decode cX7_goes 2 = .ok (.iload_n 2, 1) := by decide +kernel
theorem dX7_goes_3 : decode cX7_goes 3 = .ok (.invokevirtual 260, 3) := by decide +kernel
theorem dX7_goes_6 : decode cX7_goes 6 = .ok (.ifCond .eq 24, 3) := by decide +kernel
theorem dX7_goes_30 : decode cX7_goes 30 = .ok (.aload_n 0, 1) := by decide +kernel
theorem dX7_goes_31 : decode cX7_goes 31 = .ok (.bipush (-2), 2) := by decide +kernel
theorem dX7_goes_33 : decode cX7_goes 33 = .ok (.invokevirtual 89, 3) := by decide +kernel
theorem dX7_goes_36 : decode cX7_goes 36 = .ok (.ireturn, 1) := by decide +kernel
theorem dX7_hang_0 : decode cX7_hang 0 = .ok (.aload_n 0, 1) := by decide +kernel
theorem dX7_hang_1 : decode cX7_hang 1 = .ok (.iload_n 1, 1) := by decide +kernel
theorem dX7_hang_2 : decode cX7_hang 2 = .ok (.iload_n 2, 1) := by decide +kernel
theorem dX7_hang_3 : decode cX7_hang 3 = .ok (.invokevirtual 260, 3) := by decide +kernel
theorem dX7_hang_6 : decode cX7_hang 6 = .ok (.ifCond .eq 18, 3) := by decide +kernel
theorem dX7_hang_24 : decode cX7_hang 24 = .ok (.aload_n 0, 1) := by decide +kernel
theorem dX7_hang_25 : decode cX7_hang 25 = .ok (.bipush (-2), 2) := by decide +kernel
theorem dX7_hang_27 : decode cX7_hang 27 = .ok (.invokevirtual 89, 3) := by decide +kernel
theorem dX7_hang_30 : decode cX7_hang 30 = .ok (.ireturn, 1) := by decide +kernel
theorem dX7_holds_0 : decode cX7_holds 0 = .ok (.iload_n 1, 1) := by decide +kernel
theorem dX7_holds_1 : decode cX7_holds 1 = .ok (.i2l, 1) := by decide +kernel
theorem dX7_holds_2 : decode cX7_holds 2 = .ok (.lconst 0, 1) := by decide +kernel
theorem dX7_holds_3 : decode cX7_holds 3 = .ok (.ldc2_w 83, 3) := by decide +kernel
theorem dX7_holds_6 : decode cX7_holds 6 = .ok (.invokestatic 62, 3) := by decide +kernel
theorem dX7_holds_9 : decode cX7_holds 9 = .ok (.ifCond .eq 12, 3) := by decide +kernel
theorem dX7_holds_12 : decode cX7_holds 12 = .ok (.aload_n 0, 1) := by decide +kernel
theorem dX7_holds_13 : decode cX7_holds 13 = .ok (.getfield 7, 3) := by decide +kernel
theorem dX7_holds_16 : decode cX7_holds 16 = .ok (.iload_n 1, 1) := by decide +kernel
theorem dX7_holds_17 : decode cX7_holds 17 = .ok (.iaload, 1) := by decide +kernel
theorem dX7_holds_18 : decode cX7_holds 18 = .ok (.ifCond .ne 5, 3) := by decide +kernel
theorem dX7_holds_21 : decode cX7_holds 21 = .ok (.iconst (-1), 1) := by decide +kernel
theorem dX7_holds_22 : decode cX7_holds 22 = .ok (.ireturn, 1) := by decide +kernel
theorem dX7_in_0 : decode cX7_in 0 = .ok (.lload_n 0, 1) := by decide +kernel
theorem dX7_in_1 : decode cX7_in 1 = .ok (.lload_n 2, 1) := by decide +kernel
theorem dX7_in_2 : decode cX7_in 2 = .ok (.lcmp, 1) := by decide +kernel
theorem dX7_in_3 : decode cX7_in 3 = .ok (.ifCond .lt 14, 3) := by decide +kernel
theorem dX7_in_6 : decode cX7_in 6 = .ok (.lload_n 0, 1) := by decide +kernel
theorem dX7_in_7 : decode cX7_in 7 = .ok (.lload 4, 2) := by decide +kernel
theorem dX7_in_9 : decode cX7_in 9 = .ok (.lcmp, 1) := by decide +kernel
theorem dX7_in_10 : decode cX7_in 10 = .ok (.ifCond .gt 7, 3) := by decide +kernel
theorem dX7_in_13 : decode cX7_in 13 = .ok (.iconst 1, 1) := by decide +kernel
theorem dX7_in_14 : decode cX7_in 14 = .ok (.goto 4, 3) := by decide +kernel
theorem dX7_in_17 : decode cX7_in 17 = .ok (.iconst 0, 1) := by decide +kernel
theorem dX7_in_18 : decode cX7_in 18 = .ok (.ireturn, 1) := by decide +kernel
theorem dX7_isBridge_0 : decode cX7_isBridge 0 = .ok (.iload_n 1, 1) := by decide +kernel
theorem dX7_isBridge_1 : decode cX7_isBridge 1 = .ok (.i2l, 1) := by decide +kernel
theorem dX7_isBridge_2 : decode cX7_isBridge 2 = .ok (.lconst 0, 1) := by decide +kernel
theorem dX7_isBridge_3 : decode cX7_isBridge 3 = .ok (.aload_n 0, 1) := by decide +kernel
theorem dX7_isBridge_4 : decode cX7_isBridge 4 = .ok (.getfield 70, 3) := by decide +kernel
theorem dX7_isBridge_7 : decode cX7_isBridge 7 = .ok (.iconst 1, 1) := by decide +kernel
theorem dX7_isBridge_8 : decode cX7_isBridge 8 = .ok (.isub, 1) := by decide +kernel
theorem dX7_isBridge_9 : decode cX7_isBridge 9 = .ok (.i2l, 1) := by decide +kernel
theorem dX7_isBridge_10 : decode cX7_isBridge 10 = .ok (.invokestatic 62, 3) := by decide +kernel
theorem dX7_isBridge_13 : decode cX7_isBridge 13 = .ok (.ireturn, 1) := by decide +kernel
theorem dX7_isPack_0 : decode cX7_isPack 0 = .ok (.aload_n 0, 1) := by decide +kernel
theorem dX7_isPack_1 : decode cX7_isPack 1 = .ok (.iload_n 1, 1) := by decide +kernel
theorem dX7_isPack_2 : decode cX7_isPack 2 = .ok (.invokevirtual 76, 3) := by decide +kernel
theorem dX7_isPack_5 : decode cX7_isPack 5 = .ok (.ifCond .eq 25, 3) := by decide +kernel
theorem dX7_isPack_30 : decode cX7_isPack 30 = .ok (.iconst 0, 1) := by decide +kernel
theorem dX7_isPack_31 : decode cX7_isPack 31 = .ok (.ireturn, 1) := by decide +kernel
theorem dX7_isPlace_0 : decode cX7_isPlace 0 = .ok (.iload_n 0, 1) := by decide +kernel
theorem dX7_isPlace_1 : decode cX7_isPlace 1 = .ok (.i2l, 1) := by decide +kernel
theorem dX7_isPlace_2 : decode cX7_isPlace 2 = .ok (.lconst 0, 1) := by decide +kernel
theorem dX7_isPlace_3 : decode cX7_isPlace 3 = .ok (.ldc2_w 60, 3) := by decide +kernel
theorem dX7_isPlace_6 : decode cX7_isPlace 6 = .ok (.invokestatic 62, 3) := by decide +kernel
theorem dX7_isPlace_9 : decode cX7_isPlace 9 = .ok (.ireturn, 1) := by decide +kernel
theorem dX7_isRoad_0 : decode cX7_isRoad 0 = .ok (.iload_n 1, 1) := by decide +kernel
theorem dX7_isRoad_1 : decode cX7_isRoad 1 = .ok (.i2l, 1) := by decide +kernel
theorem dX7_isRoad_2 : decode cX7_isRoad 2 = .ok (.lconst 0, 1) := by decide +kernel
theorem dX7_isRoad_3 : decode cX7_isRoad 3 = .ok (.aload_n 0, 1) := by decide +kernel
theorem dX7_isRoad_4 : decode cX7_isRoad 4 = .ok (.getfield 66, 3) := by decide +kernel
theorem dX7_isRoad_7 : decode cX7_isRoad 7 = .ok (.iconst 1, 1) := by decide +kernel
theorem dX7_isRoad_8 : decode cX7_isRoad 8 = .ok (.isub, 1) := by decide +kernel
theorem dX7_isRoad_9 : decode cX7_isRoad 9 = .ok (.i2l, 1) := by decide +kernel
theorem dX7_isRoad_10 : decode cX7_isRoad 10 = .ok (.invokestatic 62, 3) := by decide +kernel
theorem dX7_isRoad_13 : decode cX7_isRoad 13 = .ok (.ireturn, 1) := by decide +kernel
theorem dX7_isWaggon_0 : decode cX7_isWaggon 0 = .ok (.iload_n 1, 1) := by decide +kernel
theorem dX7_isWaggon_1 : decode cX7_isWaggon 1 = .ok (.i2l, 1) := by decide +kernel
theorem dX7_isWaggon_2 : decode cX7_isWaggon 2 = .ok (.lconst 0, 1) := by decide +kernel
theorem dX7_isWaggon_3 : decode cX7_isWaggon 3 = .ok (.aload_n 0, 1) := by decide +kernel
theorem dX7_isWaggon_4 : decode cX7_isWaggon 4 = .ok (.getfield 73, 3) := by decide +kernel
theorem dX7_isWaggon_7 : decode cX7_isWaggon 7 = .ok (.iconst 1, 1) := by decide +kernel
theorem dX7_isWaggon_8 : decode cX7_isWaggon 8 = .ok (.isub, 1) := by decide +kernel
theorem dX7_isWaggon_9 : decode cX7_isWaggon 9 = .ok (.i2l, 1) := by decide +kernel
theorem dX7_isWaggon_10 : decode cX7_isWaggon 10 = .ok (.invokestatic 62, 3) := by decide +kernel
theorem dX7_isWaggon_13 : decode cX7_isWaggon 13 = .ok (.ireturn, 1) := by decide +kernel
theorem dX7_judge_0 : decode cX7_judge 0 = .ok (.aload_n 0, 1) := by decide +kernel
theorem dX7_judge_1 : decode cX7_judge 1 = .ok (.iload_n 1, 1) := by decide +kernel
theorem dX7_judge_2 : decode cX7_judge 2 = .ok (.iload_n 2, 1) := by decide +kernel
theorem dX7_judge_3 : decode cX7_judge 3 = .ok (.iload_n 3, 1) := by decide +kernel
theorem dX7_judge_4 : decode cX7_judge 4 = .ok (.iload 4, 2) := by decide +kernel
theorem dX7_judge_6 : decode cX7_judge 6 = .ok (.iload 5, 2) := by decide +kernel
theorem dX7_judge_8 : decode cX7_judge 8 = .ok (.invokevirtual 313, 3) := by decide +kernel
theorem dX7_judge_11 : decode cX7_judge 11 = .ok (.istore 6, 2) := by decide +kernel
theorem dX7_judge_13 : decode cX7_judge 13 = .ok (.iload 6, 2) := by decide +kernel
theorem dX7_judge_15 : decode cX7_judge 15 = .ok (.ifCond .eq 8, 3) := by decide +kernel
theorem dX7_judge_18 : decode cX7_judge 18 = .ok (.iload 6, 2) := by decide +kernel
theorem dX7_judge_20 : decode cX7_judge 20 = .ok (.goto 14, 3) := by decide +kernel
theorem dX7_judge_34 : decode cX7_judge 34 = .ok (.ireturn, 1) := by decide +kernel
theorem dX7_length_0 : decode cX7_length 0 = .ok (.aload_n 0, 1) := by decide +kernel
theorem dX7_length_1 : decode cX7_length 1 = .ok (.iload_n 1, 1) := by decide +kernel
theorem dX7_length_2 : decode cX7_length 2 = .ok (.invokevirtual 76, 3) := by decide +kernel
theorem dX7_length_5 : decode cX7_length 5 = .ok (.ifCond .eq 11, 3) := by decide +kernel
theorem dX7_length_16 : decode cX7_length 16 = .ok (.aload_n 0, 1) := by decide +kernel
theorem dX7_length_17 : decode cX7_length 17 = .ok (.bipush (-2), 2) := by decide +kernel
theorem dX7_length_19 : decode cX7_length 19 = .ok (.invokevirtual 89, 3) := by decide +kernel
theorem dX7_length_22 : decode cX7_length 22 = .ok (.ireturn, 1) := by decide +kernel
theorem dX7_most_0 : decode cX7_most 0 = .ok (.aload_n 0, 1) := by decide +kernel
theorem dX7_most_1 : decode cX7_most 1 = .ok (.iload_n 1, 1) := by decide +kernel
theorem dX7_most_2 : decode cX7_most 2 = .ok (.invokevirtual 76, 3) := by decide +kernel
theorem dX7_most_5 : decode cX7_most 5 = .ok (.ifCond .eq 17, 3) := by decide +kernel
theorem dX7_most_22 : decode cX7_most 22 = .ok (.aload_n 0, 1) := by decide +kernel
theorem dX7_most_23 : decode cX7_most 23 = .ok (.bipush (-2), 2) := by decide +kernel
theorem dX7_most_25 : decode cX7_most 25 = .ok (.invokevirtual 89, 3) := by decide +kernel
theorem dX7_most_28 : decode cX7_most 28 = .ok (.ireturn, 1) := by decide +kernel
theorem dX7_needs_0 : decode cX7_needs 0 = .ok (.aload_n 0, 1) := by decide +kernel
theorem dX7_needs_1 : decode cX7_needs 1 = .ok (.iload_n 1, 1) := by decide +kernel
theorem dX7_needs_2 : decode cX7_needs 2 = .ok (.iload_n 2, 1) := by decide +kernel
theorem dX7_needs_3 : decode cX7_needs 3 = .ok (.invokevirtual 260, 3) := by decide +kernel
theorem dX7_needs_6 : decode cX7_needs 6 = .ok (.ifCond .eq 21, 3) := by decide +kernel
theorem dX7_needs_27 : decode cX7_needs 27 = .ok (.aload_n 0, 1) := by decide +kernel
theorem dX7_needs_28 : decode cX7_needs 28 = .ok (.bipush (-2), 2) := by decide +kernel
theorem dX7_needs_30 : decode cX7_needs 30 = .ok (.invokevirtual 89, 3) := by decide +kernel
theorem dX7_needs_33 : decode cX7_needs 33 = .ok (.ireturn, 1) := by decide +kernel
theorem dX7_noWay_0 : decode cX7_noWay 0 = .ok (.aload_n 0, 1) := by decide +kernel
theorem dX7_noWay_1 : decode cX7_noWay 1 = .ok (.iload_n 1, 1) := by decide +kernel
theorem dX7_noWay_2 : decode cX7_noWay 2 = .ok (.iload_n 2, 1) := by decide +kernel
theorem dX7_noWay_3 : decode cX7_noWay 3 = .ok (.invokevirtual 260, 3) := by decide +kernel
theorem dX7_noWay_6 : decode cX7_noWay 6 = .ok (.ifCond .eq 36, 3) := by decide +kernel
theorem dX7_noWay_42 : decode cX7_noWay 42 = .ok (.aload_n 0, 1) := by decide +kernel
theorem dX7_noWay_43 : decode cX7_noWay 43 = .ok (.bipush (-2), 2) := by decide +kernel
theorem dX7_noWay_45 : decode cX7_noWay 45 = .ok (.invokevirtual 89, 3) := by decide +kernel
theorem dX7_noWay_48 : decode cX7_noWay 48 = .ok (.ireturn, 1) := by decide +kernel
theorem dX7_prop_0 : decode cX7_prop 0 = .ok (.aload_n 0, 1) := by decide +kernel
theorem dX7_prop_1 : decode cX7_prop 1 = .ok (.iload_n 1, 1) := by decide +kernel
theorem dX7_prop_2 : decode cX7_prop 2 = .ok (.invokevirtual 97, 3) := by decide +kernel
theorem dX7_prop_5 : decode cX7_prop 5 = .ok (.ifCond .eq 27, 3) := by decide +kernel
theorem dX7_prop_32 : decode cX7_prop 32 = .ok (.aload_n 0, 1) := by decide +kernel
theorem dX7_prop_33 : decode cX7_prop 33 = .ok (.bipush (-2), 2) := by decide +kernel
theorem dX7_prop_35 : decode cX7_prop 35 = .ok (.invokevirtual 89, 3) := by decide +kernel
theorem dX7_prop_38 : decode cX7_prop 38 = .ok (.ireturn, 1) := by decide +kernel
theorem dX7_reach_0 : decode cX7_reach 0 = .ok (.aload_n 0, 1) := by decide +kernel
theorem dX7_reach_1 : decode cX7_reach 1 = .ok (.iload_n 1, 1) := by decide +kernel
theorem dX7_reach_2 : decode cX7_reach 2 = .ok (.iload_n 2, 1) := by decide +kernel
theorem dX7_reach_3 : decode cX7_reach 3 = .ok (.invokevirtual 260, 3) := by decide +kernel
theorem dX7_reach_6 : decode cX7_reach 6 = .ok (.ifCond .eq 10, 3) := by decide +kernel
theorem dX7_reach_16 : decode cX7_reach 16 = .ok (.aload_n 0, 1) := by decide +kernel
theorem dX7_reach_17 : decode cX7_reach 17 = .ok (.bipush (-2), 2) := by decide +kernel
theorem dX7_reach_19 : decode cX7_reach 19 = .ok (.invokevirtual 89, 3) := by decide +kernel
theorem dX7_reach_22 : decode cX7_reach 22 = .ok (.ireturn, 1) := by decide +kernel
theorem dX7_refuse_0 : decode cX7_refuse 0 = .ok (.aload_n 0, 1) := by decide +kernel
theorem dX7_refuse_1 : decode cX7_refuse 1 = .ok (.getfield 34, 3) := by decide +kernel
theorem dX7_refuse_4 : decode cX7_refuse 4 = .ok (.iload_n 1, 1) := by decide +kernel
theorem dX7_refuse_5 : decode cX7_refuse 5 = .ok (.ineg, 1) := by decide +kernel
theorem dX7_refuse_6 : decode cX7_refuse 6 = .ok (.dup2, 1) := by decide +kernel
theorem dX7_refuse_7 : decode cX7_refuse 7 = .ok (.iaload, 1) := by decide +kernel
theorem dX7_refuse_8 : decode cX7_refuse 8 = .ok (.iconst 1, 1) := by decide +kernel
theorem dX7_refuse_9 : decode cX7_refuse 9 = .ok (.iadd, 1) := by decide +kernel
theorem dX7_refuse_10 : decode cX7_refuse 10 = .ok (.iastore, 1) := by decide +kernel
theorem dX7_refuse_11 : decode cX7_refuse 11 = .ok (.iload_n 1, 1) := by decide +kernel
theorem dX7_refuse_12 : decode cX7_refuse 12 = .ok (.ireturn, 1) := by decide +kernel
theorem dX7_roadOf_0 : decode cX7_roadOf 0 = .ok (.aload_n 0, 1) := by decide +kernel
theorem dX7_roadOf_1 : decode cX7_roadOf 1 = .ok (.iload_n 1, 1) := by decide +kernel
theorem dX7_roadOf_2 : decode cX7_roadOf 2 = .ok (.invokevirtual 126, 3) := by decide +kernel
theorem dX7_roadOf_5 : decode cX7_roadOf 5 = .ok (.ifCond .eq 26, 3) := by decide +kernel
theorem dX7_roadOf_31 : decode cX7_roadOf 31 = .ok (.aload_n 0, 1) := by decide +kernel
theorem dX7_roadOf_32 : decode cX7_roadOf 32 = .ok (.bipush (-2), 2) := by decide +kernel
theorem dX7_roadOf_34 : decode cX7_roadOf 34 = .ok (.invokevirtual 89, 3) := by decide +kernel
theorem dX7_roadOf_37 : decode cX7_roadOf 37 = .ok (.ireturn, 1) := by decide +kernel
theorem dX7_says_0 : decode cX7_says 0 = .ok (.iload_n 1, 1) := by decide +kernel
theorem dX7_says_1 : decode cX7_says 1 = .ok (.i2l, 1) := by decide +kernel
theorem dX7_says_2 : decode cX7_says 2 = .ok (.lconst 0, 1) := by decide +kernel
theorem dX7_says_3 : decode cX7_says 3 = .ok (.ldc2_w 83, 3) := by decide +kernel
theorem dX7_says_6 : decode cX7_says 6 = .ok (.invokestatic 62, 3) := by decide +kernel
theorem dX7_says_9 : decode cX7_says 9 = .ok (.ifCond .eq 15, 3) := by decide +kernel
theorem dX7_says_12 : decode cX7_says 12 = .ok (.iload_n 2, 1) := by decide +kernel
theorem dX7_says_13 : decode cX7_says 13 = .ok (.i2l, 1) := by decide +kernel
theorem dX7_says_14 : decode cX7_says 14 = .ok (.lconst 0, 1) := by decide +kernel
theorem dX7_says_15 : decode cX7_says 15 = .ok (.ldc2_w 100, 3) := by decide +kernel
theorem dX7_says_18 : decode cX7_says 18 = .ok (.invokestatic 62, 3) := by decide +kernel
theorem dX7_says_21 : decode cX7_says 21 = .ok (.ifCond .ne 10, 3) := by decide +kernel
theorem dX7_says_24 : decode cX7_says 24 = .ok (.aload_n 0, 1) := by decide +kernel
theorem dX7_says_25 : decode cX7_says 25 = .ok (.bipush (-2), 2) := by decide +kernel
theorem dX7_says_27 : decode cX7_says 27 = .ok (.invokevirtual 89, 3) := by decide +kernel
theorem dX7_says_30 : decode cX7_says 30 = .ok (.ireturn, 1) := by decide +kernel
theorem dX7_says_31 : decode cX7_says 31 = .ok (.aload_n 0, 1) := by decide +kernel
theorem dX7_says_32 : decode cX7_says 32 = .ok (.getfield 7, 3) := by decide +kernel
theorem dX7_says_35 : decode cX7_says 35 = .ok (.iload_n 1, 1) := by decide +kernel
theorem dX7_says_36 : decode cX7_says 36 = .ok (.iaload, 1) := by decide +kernel
theorem dX7_says_37 : decode cX7_says 37 = .ok (.iconst 1, 1) := by decide +kernel
theorem dX7_says_38 : decode cX7_says 38 = .ok (.if_icmp .eq 33, 3) := by decide +kernel
theorem dX7_says_41 : decode cX7_says 41 = .ok (.aload_n 0, 1) := by decide +kernel
theorem dX7_says_42 : decode cX7_says 42 = .ok (.getfield 7, 3) := by decide +kernel
theorem dX7_says_45 : decode cX7_says 45 = .ok (.iload_n 1, 1) := by decide +kernel
theorem dX7_says_46 : decode cX7_says 46 = .ok (.iaload, 1) := by decide +kernel
theorem dX7_says_47 : decode cX7_says 47 = .ok (.iconst 2, 1) := by decide +kernel
theorem dX7_says_48 : decode cX7_says 48 = .ok (.if_icmp .ne 30, 3) := by decide +kernel
theorem dX7_says_78 : decode cX7_says 78 = .ok (.aload_n 0, 1) := by decide +kernel
theorem dX7_says_79 : decode cX7_says 79 = .ok (.getfield 7, 3) := by decide +kernel
theorem dX7_says_82 : decode cX7_says 82 = .ok (.iload_n 1, 1) := by decide +kernel
theorem dX7_says_83 : decode cX7_says 83 = .ok (.iaload, 1) := by decide +kernel
theorem dX7_says_84 : decode cX7_says 84 = .ok (.ifCond .ne 10, 3) := by decide +kernel
theorem dX7_says_87 : decode cX7_says 87 = .ok (.aload_n 0, 1) := by decide +kernel
theorem dX7_says_88 : decode cX7_says 88 = .ok (.bipush (-4), 2) := by decide +kernel
theorem dX7_says_90 : decode cX7_says 90 = .ok (.invokevirtual 89, 3) := by decide +kernel
theorem dX7_says_93 : decode cX7_says 93 = .ok (.ireturn, 1) := by decide +kernel
theorem dX7_set_0 : decode cX7_set 0 = .ok (.iload_n 1, 1) := by decide +kernel
theorem dX7_set_1 : decode cX7_set 1 = .ok (.i2l, 1) := by decide +kernel
theorem dX7_set_2 : decode cX7_set 2 = .ok (.lconst 0, 1) := by decide +kernel
theorem dX7_set_3 : decode cX7_set 3 = .ok (.ldc2_w 83, 3) := by decide +kernel
theorem dX7_set_6 : decode cX7_set 6 = .ok (.invokestatic 62, 3) := by decide +kernel
theorem dX7_set_9 : decode cX7_set 9 = .ok (.ifCond .ne 10, 3) := by decide +kernel
theorem dX7_set_12 : decode cX7_set 12 = .ok (.aload_n 0, 1) := by decide +kernel
theorem dX7_set_13 : decode cX7_set 13 = .ok (.bipush (-2), 2) := by decide +kernel
theorem dX7_set_15 : decode cX7_set 15 = .ok (.invokevirtual 89, 3) := by decide +kernel
theorem dX7_set_18 : decode cX7_set 18 = .ok (.ireturn, 1) := by decide +kernel
theorem dX7_set_19 : decode cX7_set 19 = .ok (.aload_n 0, 1) := by decide +kernel
theorem dX7_set_20 : decode cX7_set 20 = .ok (.getfield 7, 3) := by decide +kernel
theorem dX7_set_23 : decode cX7_set 23 = .ok (.iload_n 1, 1) := by decide +kernel
theorem dX7_set_24 : decode cX7_set 24 = .ok (.iaload, 1) := by decide +kernel
theorem dX7_set_25 : decode cX7_set 25 = .ok (.iconst 2, 1) := by decide +kernel
theorem dX7_set_26 : decode cX7_set 26 = .ok (.if_icmp .ne 10, 3) := by decide +kernel
theorem dX7_set_36 : decode cX7_set 36 = .ok (.aload_n 0, 1) := by decide +kernel
theorem dX7_set_37 : decode cX7_set 37 = .ok (.getfield 7, 3) := by decide +kernel
theorem dX7_set_40 : decode cX7_set 40 = .ok (.iload_n 1, 1) := by decide +kernel
theorem dX7_set_41 : decode cX7_set 41 = .ok (.iaload, 1) := by decide +kernel
theorem dX7_set_42 : decode cX7_set 42 = .ok (.ifCond .ne 10, 3) := by decide +kernel
theorem dX7_set_45 : decode cX7_set 45 = .ok (.aload_n 0, 1) := by decide +kernel
theorem dX7_set_46 : decode cX7_set 46 = .ok (.bipush (-4), 2) := by decide +kernel
theorem dX7_set_48 : decode cX7_set 48 = .ok (.invokevirtual 89, 3) := by decide +kernel
theorem dX7_set_51 : decode cX7_set 51 = .ok (.ireturn, 1) := by decide +kernel
theorem dX7_show_0 : decode cX7_show 0 = .ok (.iload_n 1, 1) := by decide +kernel
theorem dX7_show_1 : decode cX7_show 1 = .ok (.i2l, 1) := by decide +kernel
theorem dX7_show_2 : decode cX7_show 2 = .ok (.lconst 0, 1) := by decide +kernel
theorem dX7_show_3 : decode cX7_show 3 = .ok (.ldc2_w 83, 3) := by decide +kernel
theorem dX7_show_6 : decode cX7_show 6 = .ok (.invokestatic 62, 3) := by decide +kernel
theorem dX7_show_9 : decode cX7_show 9 = .ok (.ifCond .eq 16, 3) := by decide +kernel
theorem dX7_show_12 : decode cX7_show 12 = .ok (.iload_n 2, 1) := by decide +kernel
theorem dX7_show_13 : decode cX7_show 13 = .ok (.iconst (-1), 1) := by decide +kernel
theorem dX7_show_14 : decode cX7_show 14 = .ok (.if_icmp .eq 18, 3) := by decide +kernel
theorem dX7_show_17 : decode cX7_show 17 = .ok (.aload_n 0, 1) := by decide +kernel
theorem dX7_show_18 : decode cX7_show 18 = .ok (.iload_n 2, 1) := by decide +kernel
theorem dX7_show_19 : decode cX7_show 19 = .ok (.invokevirtual 97, 3) := by decide +kernel
theorem dX7_show_22 : decode cX7_show 22 = .ok (.ifCond .ne 10, 3) := by decide +kernel
theorem dX7_show_25 : decode cX7_show 25 = .ok (.aload_n 0, 1) := by decide +kernel
theorem dX7_show_26 : decode cX7_show 26 = .ok (.bipush (-2), 2) := by decide +kernel
theorem dX7_show_28 : decode cX7_show 28 = .ok (.invokevirtual 89, 3) := by decide +kernel
theorem dX7_show_31 : decode cX7_show 31 = .ok (.ireturn, 1) := by decide +kernel
theorem dX7_show_32 : decode cX7_show 32 = .ok (.aload_n 0, 1) := by decide +kernel
theorem dX7_show_33 : decode cX7_show 33 = .ok (.getfield 7, 3) := by decide +kernel
theorem dX7_show_36 : decode cX7_show 36 = .ok (.iload_n 1, 1) := by decide +kernel
theorem dX7_show_37 : decode cX7_show 37 = .ok (.iload_n 2, 1) := by decide +kernel
theorem dX7_show_38 : decode cX7_show 38 = .ok (.iconst (-1), 1) := by decide +kernel
theorem dX7_show_39 : decode cX7_show 39 = .ok (.if_icmp .ne 7, 3) := by decide +kernel
theorem dX7_show_42 : decode cX7_show 42 = .ok (.iconst 0, 1) := by decide +kernel
theorem dX7_show_43 : decode cX7_show 43 = .ok (.goto 4, 3) := by decide +kernel
theorem dX7_show_46 : decode cX7_show 46 = .ok (.iconst 2, 1) := by decide +kernel
theorem dX7_show_47 : decode cX7_show 47 = .ok (.iastore, 1) := by decide +kernel
theorem dX7_show_48 : decode cX7_show 48 = .ok (.aload_n 0, 1) := by decide +kernel
theorem dX7_show_49 : decode cX7_show 49 = .ok (.getfield 28, 3) := by decide +kernel
theorem dX7_show_52 : decode cX7_show 52 = .ok (.iload_n 1, 1) := by decide +kernel
theorem dX7_show_53 : decode cX7_show 53 = .ok (.iload_n 2, 1) := by decide +kernel
theorem dX7_show_54 : decode cX7_show 54 = .ok (.iastore, 1) := by decide +kernel
theorem dX7_show_55 : decode cX7_show 55 = .ok (.iconst 1, 1) := by decide +kernel
theorem dX7_show_56 : decode cX7_show 56 = .ok (.ireturn, 1) := by decide +kernel
theorem dX7_shut_0 : decode cX7_shut 0 = .ok (.aload_n 0, 1) := by decide +kernel
theorem dX7_shut_1 : decode cX7_shut 1 = .ok (.iload_n 1, 1) := by decide +kernel
theorem dX7_shut_2 : decode cX7_shut 2 = .ok (.invokevirtual 126, 3) := by decide +kernel
theorem dX7_shut_5 : decode cX7_shut 5 = .ok (.ifCond .ne 10, 3) := by decide +kernel
theorem dX7_shut_8 : decode cX7_shut 8 = .ok (.aload_n 0, 1) := by decide +kernel
theorem dX7_shut_9 : decode cX7_shut 9 = .ok (.bipush (-2), 2) := by decide +kernel
theorem dX7_shut_11 : decode cX7_shut 11 = .ok (.invokevirtual 89, 3) := by decide +kernel
theorem dX7_shut_14 : decode cX7_shut 14 = .ok (.ireturn, 1) := by decide +kernel
theorem dX7_soonest_0 : decode cX7_soonest 0 = .ok (.aload_n 0, 1) := by decide +kernel
theorem dX7_soonest_1 : decode cX7_soonest 1 = .ok (.iload_n 1, 1) := by decide +kernel
theorem dX7_soonest_2 : decode cX7_soonest 2 = .ok (.iload_n 2, 1) := by decide +kernel
theorem dX7_soonest_3 : decode cX7_soonest 3 = .ok (.invokevirtual 260, 3) := by decide +kernel
theorem dX7_soonest_6 : decode cX7_soonest 6 = .ok (.ifCond .eq 18, 3) := by decide +kernel
theorem dX7_soonest_24 : decode cX7_soonest 24 = .ok (.aload_n 0, 1) := by decide +kernel
theorem dX7_soonest_25 : decode cX7_soonest 25 = .ok (.bipush (-2), 2) := by decide +kernel
theorem dX7_soonest_27 : decode cX7_soonest 27 = .ok (.invokevirtual 89, 3) := by decide +kernel
theorem dX7_soonest_30 : decode cX7_soonest 30 = .ok (.ireturn, 1) := by decide +kernel
theorem dX7_stand_0 : decode cX7_stand 0 = .ok (.aload_n 0, 1) := by decide +kernel
theorem dX7_stand_1 : decode cX7_stand 1 = .ok (.iload_n 1, 1) := by decide +kernel
theorem dX7_stand_2 : decode cX7_stand 2 = .ok (.invokevirtual 97, 3) := by decide +kernel
theorem dX7_stand_5 : decode cX7_stand 5 = .ok (.ifCond .eq 15, 3) := by decide +kernel
theorem dX7_stand_20 : decode cX7_stand 20 = .ok (.aload_n 0, 1) := by decide +kernel
theorem dX7_stand_21 : decode cX7_stand 21 = .ok (.bipush (-2), 2) := by decide +kernel
theorem dX7_stand_23 : decode cX7_stand 23 = .ok (.invokevirtual 89, 3) := by decide +kernel
theorem dX7_stand_26 : decode cX7_stand 26 = .ok (.ireturn, 1) := by decide +kernel
theorem dX7_step_0 : decode cX7_step 0 = .ok (.aload_n 0, 1) := by decide +kernel
theorem dX7_step_1 : decode cX7_step 1 = .ok (.getfield 54, 3) := by decide +kernel
theorem dX7_step_4 : decode cX7_step 4 = .ok (.iconst 0, 1) := by decide +kernel
theorem dX7_step_5 : decode cX7_step 5 = .ok (.iaload, 1) := by decide +kernel
theorem dX7_step_6 : decode cX7_step 6 = .ok (.ifCond .eq 18, 3) := by decide +kernel
theorem dX7_step_24 : decode cX7_step 24 = .ok (.aload_n 0, 1) := by decide +kernel
theorem dX7_step_25 : decode cX7_step 25 = .ok (.bipush (-5), 2) := by decide +kernel
theorem dX7_step_27 : decode cX7_step 27 = .ok (.invokevirtual 89, 3) := by decide +kernel
theorem dX7_step_30 : decode cX7_step 30 = .ok (.ireturn, 1) := by decide +kernel
theorem dX7_strain_0 : decode cX7_strain 0 = .ok (.aload_n 0, 1) := by decide +kernel
theorem dX7_strain_1 : decode cX7_strain 1 = .ok (.iload_n 1, 1) := by decide +kernel
theorem dX7_strain_2 : decode cX7_strain 2 = .ok (.iload_n 2, 1) := by decide +kernel
theorem dX7_strain_3 : decode cX7_strain 3 = .ok (.invokevirtual 260, 3) := by decide +kernel
theorem dX7_strain_6 : decode cX7_strain 6 = .ok (.ifCond .eq 21, 3) := by decide +kernel
theorem dX7_strain_27 : decode cX7_strain 27 = .ok (.aload_n 0, 1) := by decide +kernel
theorem dX7_strain_28 : decode cX7_strain 28 = .ok (.bipush (-2), 2) := by decide +kernel
theorem dX7_strain_30 : decode cX7_strain 30 = .ok (.invokevirtual 89, 3) := by decide +kernel
theorem dX7_strain_33 : decode cX7_strain 33 = .ok (.ireturn, 1) := by decide +kernel
theorem dX7_told__0 : decode cX7_told_ 0 = .ok (.iload 6, 2) := by decide +kernel
theorem dX7_told__2 : decode cX7_told_ 2 = .ok (.i2l, 1) := by decide +kernel
theorem dX7_told__3 : decode cX7_told_ 3 = .ok (.lconst 0, 1) := by decide +kernel
theorem dX7_told__4 : decode cX7_told_ 4 = .ok (.ldc2_w 319, 3) := by decide +kernel
theorem dX7_told__7 : decode cX7_told_ 7 = .ok (.invokestatic 62, 3) := by decide +kernel
theorem dX7_told__10 : decode cX7_told_ 10 = .ok (.ifCond .ne 10, 3) := by decide +kernel
theorem dX7_told__13 : decode cX7_told_ 13 = .ok (.aload_n 0, 1) := by decide +kernel
theorem dX7_told__14 : decode cX7_told_ 14 = .ok (.bipush (-2), 2) := by decide +kernel
theorem dX7_told__16 : decode cX7_told_ 16 = .ok (.invokevirtual 89, 3) := by decide +kernel
theorem dX7_told__19 : decode cX7_told_ 19 = .ok (.ireturn, 1) := by decide +kernel
theorem dX7_told__20 : decode cX7_told_ 20 = .ok (.aload_n 0, 1) := by decide +kernel
theorem dX7_told__21 : decode cX7_told_ 21 = .ok (.iload_n 1, 1) := by decide +kernel
theorem dX7_told__22 : decode cX7_told_ 22 = .ok (.iload_n 2, 1) := by decide +kernel
theorem dX7_told__23 : decode cX7_told_ 23 = .ok (.iload_n 3, 1) := by decide +kernel
theorem dX7_told__24 : decode cX7_told_ 24 = .ok (.iload 4, 2) := by decide +kernel
theorem dX7_told__26 : decode cX7_told_ 26 = .ok (.iload 5, 2) := by decide +kernel
theorem dX7_told__28 : decode cX7_told_ 28 = .ok (.invokevirtual 313, 3) := by decide +kernel
theorem dX7_told__31 : decode cX7_told_ 31 = .ok (.istore 7, 2) := by decide +kernel
theorem dX7_told__33 : decode cX7_told_ 33 = .ok (.iload 7, 2) := by decide +kernel
theorem dX7_told__35 : decode cX7_told_ 35 = .ok (.ifCond .eq 6, 3) := by decide +kernel
theorem dX7_told__38 : decode cX7_told_ 38 = .ok (.iload 7, 2) := by decide +kernel
theorem dX7_told__40 : decode cX7_told_ 40 = .ok (.ireturn, 1) := by decide +kernel
theorem dX7_under_0 : decode cX7_under 0 = .ok (.iload_n 1, 1) := by decide +kernel
theorem dX7_under_1 : decode cX7_under 1 = .ok (.i2l, 1) := by decide +kernel
theorem dX7_under_2 : decode cX7_under 2 = .ok (.lconst 0, 1) := by decide +kernel
theorem dX7_under_3 : decode cX7_under 3 = .ok (.ldc2_w 85, 3) := by decide +kernel
theorem dX7_under_6 : decode cX7_under 6 = .ok (.invokestatic 62, 3) := by decide +kernel
theorem dX7_under_9 : decode cX7_under 9 = .ok (.ifCond .ne 10, 3) := by decide +kernel
theorem dX7_under_12 : decode cX7_under 12 = .ok (.aload_n 0, 1) := by decide +kernel
theorem dX7_under_13 : decode cX7_under 13 = .ok (.bipush (-2), 2) := by decide +kernel
theorem dX7_under_15 : decode cX7_under 15 = .ok (.invokevirtual 89, 3) := by decide +kernel
theorem dX7_under_18 : decode cX7_under 18 = .ok (.ireturn, 1) := by decide +kernel
theorem dX7_under_19 : decode cX7_under 19 = .ok (.aload_n 0, 1) := by decide +kernel
theorem dX7_under_20 : decode cX7_under 20 = .ok (.getfield 54, 3) := by decide +kernel
theorem dX7_under_23 : decode cX7_under 23 = .ok (.iconst 0, 1) := by decide +kernel
theorem dX7_under_24 : decode cX7_under 24 = .ok (.iaload, 1) := by decide +kernel
theorem dX7_under_25 : decode cX7_under 25 = .ok (.ifCond .ne 10, 3) := by decide +kernel
theorem dX7_under_28 : decode cX7_under 28 = .ok (.aload_n 0, 1) := by decide +kernel
theorem dX7_under_29 : decode cX7_under 29 = .ok (.bipush (-5), 2) := by decide +kernel
theorem dX7_under_31 : decode cX7_under 31 = .ok (.invokevirtual 89, 3) := by decide +kernel
theorem dX7_under_34 : decode cX7_under 34 = .ok (.ireturn, 1) := by decide +kernel
theorem dX7_wipe_0 : decode cX7_wipe 0 = .ok (.aload_n 0, 1) := by decide +kernel
theorem dX7_wipe_1 : decode cX7_wipe 1 = .ok (.getfield 140, 3) := by decide +kernel
theorem dX7_wipe_4 : decode cX7_wipe 4 = .ok (.istore_n 1, 1) := by decide +kernel
theorem dX7_wipe_5 : decode cX7_wipe 5 = .ok (.aload_n 0, 1) := by decide +kernel
theorem dX7_wipe_6 : decode cX7_wipe 6 = .ok (.iconst 0, 1) := by decide +kernel
theorem dX7_wipe_7 : decode cX7_wipe 7 = .ok (.putfield 140, 3) := by decide +kernel
theorem dX7_wipe_10 : decode cX7_wipe 10 = .ok (.iload_n 1, 1) := by decide +kernel
theorem dX7_wipe_11 : decode cX7_wipe 11 = .ok (.ireturn, 1) := by decide +kernel
