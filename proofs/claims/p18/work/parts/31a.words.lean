theorem q_29 : Cond.selects RX7 yX7_refuse yX7_refuse ∈ oh_t := oh_of (i := 29) (by decide +kernel) rfl
theorem q_30 : Cond.selects RX7 yX7_isBridge yX7_isBridge ∈ oh_t := oh_of (i := 30) (by decide +kernel) rfl
theorem q_35 : Cond.selects RX7 yX7_newRoad yX7_newRoad ∈ oh_t := oh_of (i := 35) (by decide +kernel) rfl
theorem q_36 : Cond.selects RX7 yX7_isRoad yX7_isRoad ∈ oh_t := oh_of (i := 36) (by decide +kernel) rfl
theorem q_37 : Cond.selects RX7 yX7_newBridge yX7_newBridge ∈ oh_t := oh_of (i := 37) (by decide +kernel) rfl
theorem q_50 : Cond.selects RX7 yX7_isPack yX7_isPack ∈ oh_t := oh_of (i := 50) (by decide +kernel) rfl
theorem q_973 : Cond.fieldLink RX7 7 "OneHeavyLoadModel" "shelf" "[I" ∈ oh_t := oh_of (i := 973) (by decide +kernel) rfl
theorem q_974 : Cond.fieldLink RX7 13 "OneHeavyLoadModel" "rowSort" "[I" ∈ oh_t := oh_of (i := 974) (by decide +kernel) rfl
theorem q_975 : Cond.fieldLink RX7 16 "OneHeavyLoadModel" "rowSize" "[I" ∈ oh_t := oh_of (i := 975) (by decide +kernel) rfl
theorem q_976 : Cond.fieldLink RX7 21 "OneHeavyLoadModel" "rows" "[[J" ∈ oh_t := oh_of (i := 976) (by decide +kernel) rfl
theorem q_977 : Cond.fieldLink RX7 24 "OneHeavyLoadModel" "moved" "[J" ∈ oh_t := oh_of (i := 977) (by decide +kernel) rfl
theorem q_978 : Cond.fieldLink RX7 28 "OneHeavyLoadModel" "shown" "[I" ∈ oh_t := oh_of (i := 978) (by decide +kernel) rfl
theorem q_980 : Cond.fieldLink RX7 140 "OneHeavyLoadModel" "tapeSize" "I" ∈ oh_t := oh_of (i := 980) (by decide +kernel) rfl
theorem q_1065 : Cond.constantLong RX7 83 7 ∈ oh_t := oh_of (i := 1065) (by decide +kernel) rfl
theorem q_1069 : Cond.constantLong RX7 85 4 ∈ oh_t := oh_of (i := 1069) (by decide +kernel) rfl
theorem q_1070 : Cond.constantLong RX7 87 40 ∈ oh_t := oh_of (i := 1070) (by decide +kernel) rfl
theorem q_1071 : Cond.methodLink RX7 89 yX7_refuse ∈ oh_t := oh_of (i := 1071) (by decide +kernel) rfl
theorem q_1073 : Cond.instanceMethod yX7_refuse ∈ oh_t := oh_of (i := 1073) (by decide +kernel) rfl
theorem q_1074 : Cond.code yX7_refuse cX7_refuse 2 (some .int) ∈ oh_t := oh_of (i := 1074) (by decide +kernel) rfl
theorem q_1079 : Cond.methodLink RX7 93 yX7_fit ∈ oh_t := oh_of (i := 1079) (by decide +kernel) rfl
theorem q_1080 : Cond.static yX7_fit ∈ oh_t := oh_of (i := 1080) (by decide +kernel) rfl
theorem q_1081 : Cond.code yX7_fit cX7_fit 3 (some .long) ∈ oh_t := oh_of (i := 1081) (by decide +kernel) rfl
theorem q_1098 : Cond.methodLink RX7 97 yX7_isBridge ∈ oh_t := oh_of (i := 1098) (by decide +kernel) rfl
theorem q_1100 : Cond.instanceMethod yX7_isBridge ∈ oh_t := oh_of (i := 1100) (by decide +kernel) rfl
theorem q_1101 : Cond.code yX7_isBridge cX7_isBridge 2 (some .boolean) ∈ oh_t := oh_of (i := 1101) (by decide +kernel) rfl
theorem q_1106 : Cond.constantLong RX7 100 5 ∈ oh_t := oh_of (i := 1106) (by decide +kernel) rfl
theorem q_1107 : Cond.methodLink RX7 102 yX7_isUnder ∈ oh_t := oh_of (i := 1107) (by decide +kernel) rfl
theorem q_1108 : Cond.static yX7_isUnder ∈ oh_t := oh_of (i := 1108) (by decide +kernel) rfl
theorem q_1109 : Cond.code yX7_isUnder cX7_isUnder 2 (some .boolean) ∈ oh_t := oh_of (i := 1109) (by decide +kernel) rfl
theorem q_1130 : Cond.methodLink RX7 113 yX7_isPlace ∈ oh_t := oh_of (i := 1130) (by decide +kernel) rfl
theorem q_1131 : Cond.static yX7_isPlace ∈ oh_t := oh_of (i := 1131) (by decide +kernel) rfl
theorem q_1132 : Cond.code yX7_isPlace cX7_isPlace 1 (some .boolean) ∈ oh_t := oh_of (i := 1132) (by decide +kernel) rfl
theorem q_1134 : Cond.constantLong RX7 116 60 ∈ oh_t := oh_of (i := 1134) (by decide +kernel) rfl
theorem q_1135 : Cond.constantLong RX7 118 9 ∈ oh_t := oh_of (i := 1135) (by decide +kernel) rfl
theorem q_1136 : Cond.constantLong RX7 120 99 ∈ oh_t := oh_of (i := 1136) (by decide +kernel) rfl
theorem q_1137 : Cond.methodLink RX7 122 yX7_newRoad ∈ oh_t := oh_of (i := 1137) (by decide +kernel) rfl
theorem q_1139 : Cond.instanceMethod yX7_newRoad ∈ oh_t := oh_of (i := 1139) (by decide +kernel) rfl
theorem q_1140 : Cond.code yX7_newRoad cX7_newRoad 4 none ∈ oh_t := oh_of (i := 1140) (by decide +kernel) rfl
theorem q_1145 : Cond.methodLink RX7 126 yX7_isRoad ∈ oh_t := oh_of (i := 1145) (by decide +kernel) rfl
theorem q_1147 : Cond.instanceMethod yX7_isRoad ∈ oh_t := oh_of (i := 1147) (by decide +kernel) rfl
theorem q_1148 : Cond.code yX7_isRoad cX7_isRoad 2 (some .boolean) ∈ oh_t := oh_of (i := 1148) (by decide +kernel) rfl
theorem q_1149 : Cond.constantLong RX7 129 999 ∈ oh_t := oh_of (i := 1149) (by decide +kernel) rfl
theorem q_1150 : Cond.methodLink RX7 131 yX7_newBridge ∈ oh_t := oh_of (i := 1150) (by decide +kernel) rfl
theorem q_1152 : Cond.instanceMethod yX7_newBridge ∈ oh_t := oh_of (i := 1152) (by decide +kernel) rfl
theorem q_1153 : Cond.code yX7_newBridge cX7_newBridge 2 none ∈ oh_t := oh_of (i := 1153) (by decide +kernel) rfl
theorem q_1162 : Cond.constantLong RX7 134 2 ∈ oh_t := oh_of (i := 1162) (by decide +kernel) rfl
theorem q_1163 : Cond.constantLong RX7 136 12 ∈ oh_t := oh_of (i := 1163) (by decide +kernel) rfl
theorem q_1172 : Cond.constantLong RX7 138 900 ∈ oh_t := oh_of (i := 1172) (by decide +kernel) rfl
theorem q_1265 : Cond.constantLong RX7 249 6 ∈ oh_t := oh_of (i := 1265) (by decide +kernel) rfl
theorem q_1290 : Cond.methodLink RX7 260 yX7_isPack ∈ oh_t := oh_of (i := 1290) (by decide +kernel) rfl
theorem q_1292 : Cond.instanceMethod yX7_isPack ∈ oh_t := oh_of (i := 1292) (by decide +kernel) rfl
theorem q_1293 : Cond.code yX7_isPack cX7_isPack 3 (some .boolean) ∈ oh_t := oh_of (i := 1293) (by decide +kernel) rfl
theorem pdX7_fit : yX7_fit.cls ≠ "java/lang/invoke/MethodHandle" ∧ yX7_fit.cls ≠ "java/lang/invoke/VarHandle" ∧ (parseMethodDescriptor yX7_fit.desc).map (fun d => d.parameters.length) = some 2 := by decide +kernel
theorem pdVX7_isBridge : yX7_isBridge.cls = RX7 ∧ yX7_isBridge.cls ≠ "java/lang/invoke/MethodHandle" ∧ yX7_isBridge.cls ≠ "java/lang/invoke/VarHandle" ∧ (parseMethodDescriptor yX7_isBridge.desc).map (fun d => d.parameters.length) = some 1 := by decide +kernel
theorem pdVX7_isPack : yX7_isPack.cls = RX7 ∧ yX7_isPack.cls ≠ "java/lang/invoke/MethodHandle" ∧ yX7_isPack.cls ≠ "java/lang/invoke/VarHandle" ∧ (parseMethodDescriptor yX7_isPack.desc).map (fun d => d.parameters.length) = some 2 := by decide +kernel
theorem pdX7_isPlace : yX7_isPlace.cls ≠ "java/lang/invoke/MethodHandle" ∧ yX7_isPlace.cls ≠ "java/lang/invoke/VarHandle" ∧ (parseMethodDescriptor yX7_isPlace.desc).map (fun d => d.parameters.length) = some 1 := by decide +kernel
theorem pdVX7_isRoad : yX7_isRoad.cls = RX7 ∧ yX7_isRoad.cls ≠ "java/lang/invoke/MethodHandle" ∧ yX7_isRoad.cls ≠ "java/lang/invoke/VarHandle" ∧ (parseMethodDescriptor yX7_isRoad.desc).map (fun d => d.parameters.length) = some 1 := by decide +kernel
theorem pdX7_isUnder : yX7_isUnder.cls ≠ "java/lang/invoke/MethodHandle" ∧ yX7_isUnder.cls ≠ "java/lang/invoke/VarHandle" ∧ (parseMethodDescriptor yX7_isUnder.desc).map (fun d => d.parameters.length) = some 2 := by decide +kernel
theorem pdVX7_newBridge : yX7_newBridge.cls = RX7 ∧ yX7_newBridge.cls ≠ "java/lang/invoke/MethodHandle" ∧ yX7_newBridge.cls ≠ "java/lang/invoke/VarHandle" ∧ (parseMethodDescriptor yX7_newBridge.desc).map (fun d => d.parameters.length) = some 0 := by decide +kernel
theorem pdVX7_newRoad : yX7_newRoad.cls = RX7 ∧ yX7_newRoad.cls ≠ "java/lang/invoke/MethodHandle" ∧ yX7_newRoad.cls ≠ "java/lang/invoke/VarHandle" ∧ (parseMethodDescriptor yX7_newRoad.desc).map (fun d => d.parameters.length) = some 2 := by decide +kernel
theorem pdVX7_refuse : yX7_refuse.cls = RX7 ∧ yX7_refuse.cls ≠ "java/lang/invoke/MethodHandle" ∧ yX7_refuse.cls ≠ "java/lang/invoke/VarHandle" ∧ (parseMethodDescriptor yX7_refuse.desc).map (fun d => d.parameters.length) = some 1 := by decide +kernel
theorem dX7_ask_0 : decode cX7_ask 0 = .ok (.iload_n 1, 1) := by decide +kernel
theorem dX7_ask_1 : decode cX7_ask 1 = .ok (.i2l, 1) := by decide +kernel
theorem dX7_ask_2 : decode cX7_ask 2 = .ok (.lconst 0, 1) := by decide +kernel
theorem dX7_ask_3 : decode cX7_ask 3 = .ok (.ldc2_w 134, 3) := by decide +kernel
theorem dX7_ask_6 : decode cX7_ask 6 = .ok (.invokestatic 62, 3) := by decide +kernel
theorem dX7_ask_9 : decode cX7_ask 9 = .ok (.ifCond .eq 34, 3) := by decide +kernel
theorem dX7_ask_12 : decode cX7_ask 12 = .ok (.iload_n 2, 1) := by decide +kernel
theorem dX7_ask_13 : decode cX7_ask 13 = .ok (.i2l, 1) := by decide +kernel
theorem dX7_ask_14 : decode cX7_ask 14 = .ok (.lconst 0, 1) := by decide +kernel
theorem dX7_ask_15 : decode cX7_ask 15 = .ok (.iload_n 1, 1) := by decide +kernel
theorem dX7_ask_16 : decode cX7_ask 16 = .ok (.ifCond .ne 9, 3) := by decide +kernel
theorem dX7_ask_19 : decode cX7_ask 19 = .ok (.ldc2_w 138, 3) := by decide +kernel
theorem dX7_ask_22 : decode cX7_ask 22 = .ok (.goto 15, 3) := by decide +kernel
theorem dX7_ask_25 : decode cX7_ask 25 = .ok (.iload_n 1, 1) := by decide +kernel
theorem dX7_ask_26 : decode cX7_ask 26 = .ok (.iconst 1, 1) := by decide +kernel
theorem dX7_ask_27 : decode cX7_ask 27 = .ok (.if_icmp .ne 9, 3) := by decide +kernel
theorem dX7_ask_30 : decode cX7_ask 30 = .ok (.ldc2_w 120, 3) := by decide +kernel
theorem dX7_ask_33 : decode cX7_ask 33 = .ok (.goto 4, 3) := by decide +kernel
theorem dX7_ask_36 : decode cX7_ask 36 = .ok (.lconst 1, 1) := by decide +kernel
theorem dX7_ask_37 : decode cX7_ask 37 = .ok (.invokestatic 62, 3) := by decide +kernel
theorem dX7_ask_40 : decode cX7_ask 40 = .ok (.ifCond .ne 10, 3) := by decide +kernel
theorem dX7_ask_43 : decode cX7_ask 43 = .ok (.aload_n 0, 1) := by decide +kernel
theorem dX7_ask_44 : decode cX7_ask 44 = .ok (.bipush (-2), 2) := by decide +kernel
theorem dX7_ask_46 : decode cX7_ask 46 = .ok (.invokevirtual 89, 3) := by decide +kernel
theorem dX7_ask_49 : decode cX7_ask 49 = .ok (.ireturn, 1) := by decide +kernel
theorem dX7_ask_50 : decode cX7_ask 50 = .ok (.aload_n 0, 1) := by decide +kernel
theorem dX7_ask_51 : decode cX7_ask 51 = .ok (.getfield 51, 3) := by decide +kernel
theorem dX7_ask_54 : decode cX7_ask 54 = .ok (.iload_n 1, 1) := by decide +kernel
theorem dX7_ask_55 : decode cX7_ask 55 = .ok (.iaload, 1) := by decide +kernel
theorem dX7_ask_56 : decode cX7_ask 56 = .ok (.istore_n 3, 1) := by decide +kernel
theorem dX7_ask_57 : decode cX7_ask 57 = .ok (.aload_n 0, 1) := by decide +kernel
theorem dX7_ask_58 : decode cX7_ask 58 = .ok (.getfield 51, 3) := by decide +kernel
theorem dX7_ask_61 : decode cX7_ask 61 = .ok (.iload_n 1, 1) := by decide +kernel
theorem dX7_ask_62 : decode cX7_ask 62 = .ok (.iload_n 2, 1) := by decide +kernel
theorem dX7_ask_63 : decode cX7_ask 63 = .ok (.iastore, 1) := by decide +kernel
theorem dX7_ask_64 : decode cX7_ask 64 = .ok (.iload_n 3, 1) := by decide +kernel
theorem dX7_ask_65 : decode cX7_ask 65 = .ok (.ireturn, 1) := by decide +kernel
theorem dX7_axle_0 : decode cX7_axle 0 = .ok (.aload_n 0, 1) := by decide +kernel
theorem dX7_axle_1 : decode cX7_axle 1 = .ok (.iload_n 1, 1) := by decide +kernel
theorem dX7_axle_2 : decode cX7_axle 2 = .ok (.iload_n 2, 1) := by decide +kernel
theorem dX7_axle_3 : decode cX7_axle 3 = .ok (.invokevirtual 260, 3) := by decide +kernel
theorem dX7_axle_6 : decode cX7_axle 6 = .ok (.ifCond .eq 12, 3) := by decide +kernel
theorem dX7_axle_9 : decode cX7_axle 9 = .ok (.aload_n 0, 1) := by decide +kernel
theorem dX7_axle_10 : decode cX7_axle 10 = .ok (.iload_n 1, 1) := by decide +kernel
theorem dX7_axle_11 : decode cX7_axle 11 = .ok (.iload_n 2, 1) := by decide +kernel
theorem dX7_axle_12 : decode cX7_axle 12 = .ok (.invokevirtual 263, 3) := by decide +kernel
theorem dX7_axle_15 : decode cX7_axle 15 = .ok (.goto 9, 3) := by decide +kernel
theorem dX7_axle_18 : decode cX7_axle 18 = .ok (.aload_n 0, 1) := by decide +kernel
theorem dX7_axle_19 : decode cX7_axle 19 = .ok (.bipush (-2), 2) := by decide +kernel
theorem dX7_axle_21 : decode cX7_axle 21 = .ok (.invokevirtual 89, 3) := by decide +kernel
theorem dX7_axle_24 : decode cX7_axle 24 = .ok (.ireturn, 1) := by decide +kernel
theorem dX7_bears_0 : decode cX7_bears 0 = .ok (.aload_n 0, 1) := by decide +kernel
theorem dX7_bears_1 : decode cX7_bears 1 = .ok (.iload_n 1, 1) := by decide +kernel
theorem dX7_bears_2 : decode cX7_bears 2 = .ok (.invokevirtual 97, 3) := by decide +kernel
theorem dX7_bears_5 : decode cX7_bears 5 = .ok (.ifCond .ne 10, 3) := by decide +kernel
theorem dX7_bears_8 : decode cX7_bears 8 = .ok (.aload_n 0, 1) := by decide +kernel
theorem dX7_bears_9 : decode cX7_bears 9 = .ok (.bipush (-2), 2) := by decide +kernel
theorem dX7_bears_11 : decode cX7_bears 11 = .ok (.invokevirtual 89, 3) := by decide +kernel
theorem dX7_bears_14 : decode cX7_bears 14 = .ok (.ireturn, 1) := by decide +kernel
theorem dX7_bears_15 : decode cX7_bears 15 = .ok (.iload_n 2, 1) := by decide +kernel
theorem dX7_bears_16 : decode cX7_bears 16 = .ok (.ifCond .eq 29, 3) := by decide +kernel
theorem dX7_bears_19 : decode cX7_bears 19 = .ok (.aload_n 0, 1) := by decide +kernel
theorem dX7_bears_20 : decode cX7_bears 20 = .ok (.iload_n 1, 1) := by decide +kernel
theorem dX7_bears_21 : decode cX7_bears 21 = .ok (.aload_n 0, 1) := by decide +kernel
theorem dX7_bears_22 : decode cX7_bears 22 = .ok (.getfield 42, 3) := by decide +kernel
theorem dX7_bears_25 : decode cX7_bears 25 = .ok (.iload_n 1, 1) := by decide +kernel
theorem dX7_bears_26 : decode cX7_bears 26 = .ok (.aaload, 1) := by decide +kernel
theorem dX7_bears_27 : decode cX7_bears 27 = .ok (.bipush 7, 2) := by decide +kernel
theorem dX7_bears_29 : decode cX7_bears 29 = .ok (.iaload, 1) := by decide +kernel
theorem dX7_bears_30 : decode cX7_bears 30 = .ok (.iconst 1, 1) := by decide +kernel
theorem dX7_bears_31 : decode cX7_bears 31 = .ok (.if_icmp .ne 7, 3) := by decide +kernel
theorem dX7_bears_34 : decode cX7_bears 34 = .ok (.iconst 1, 1) := by decide +kernel
theorem dX7_bears_35 : decode cX7_bears 35 = .ok (.goto 4, 3) := by decide +kernel
theorem dX7_bears_38 : decode cX7_bears 38 = .ok (.iconst 0, 1) := by decide +kernel
theorem dX7_bears_39 : decode cX7_bears 39 = .ok (.invokevirtual 109, 3) := by decide +kernel
theorem dX7_bears_42 : decode cX7_bears 42 = .ok (.goto 8, 3) := by decide +kernel
theorem dX7_bears_45 : decode cX7_bears 45 = .ok (.aload_n 0, 1) := by decide +kernel
theorem dX7_bears_46 : decode cX7_bears 46 = .ok (.iload_n 1, 1) := by decide +kernel
theorem dX7_bears_47 : decode cX7_bears 47 = .ok (.invokevirtual 106, 3) := by decide +kernel
theorem dX7_bears_50 : decode cX7_bears 50 = .ok (.ireturn, 1) := by decide +kernel
theorem dX7_bridge_0 : decode cX7_bridge 0 = .ok (.aload_n 0, 1) := by decide +kernel
theorem dX7_bridge_1 : decode cX7_bridge 1 = .ok (.iload_n 1, 1) := by decide +kernel
theorem dX7_bridge_2 : decode cX7_bridge 2 = .ok (.invokevirtual 126, 3) := by decide +kernel
theorem dX7_bridge_5 : decode cX7_bridge 5 = .ok (.ifCond .eq 53, 3) := by decide +kernel
theorem dX7_bridge_8 : decode cX7_bridge 8 = .ok (.iload_n 2, 1) := by decide +kernel
theorem dX7_bridge_9 : decode cX7_bridge 9 = .ok (.i2l, 1) := by decide +kernel
theorem dX7_bridge_10 : decode cX7_bridge 10 = .ok (.lconst 0, 1) := by decide +kernel
theorem dX7_bridge_11 : decode cX7_bridge 11 = .ok (.ldc2_w 100, 3) := by decide +kernel
theorem dX7_bridge_14 : decode cX7_bridge 14 = .ok (.invokestatic 62, 3) := by decide +kernel
theorem dX7_bridge_17 : decode cX7_bridge 17 = .ok (.ifCond .eq 41, 3) := by decide +kernel
theorem dX7_bridge_20 : decode cX7_bridge 20 = .ok (.iload_n 3, 1) := by decide +kernel
theorem dX7_bridge_21 : decode cX7_bridge 21 = .ok (.i2l, 1) := by decide +kernel
theorem dX7_bridge_22 : decode cX7_bridge 22 = .ok (.lconst 0, 1) := by decide +kernel
theorem dX7_bridge_23 : decode cX7_bridge 23 = .ok (.ldc2_w 116, 3) := by decide +kernel
theorem dX7_bridge_26 : decode cX7_bridge 26 = .ok (.invokestatic 62, 3) := by decide +kernel
theorem dX7_bridge_29 : decode cX7_bridge 29 = .ok (.ifCond .eq 29, 3) := by decide +kernel
theorem dX7_bridge_32 : decode cX7_bridge 32 = .ok (.iload 4, 2) := by decide +kernel
theorem dX7_bridge_34 : decode cX7_bridge 34 = .ok (.i2l, 1) := by decide +kernel
theorem dX7_bridge_35 : decode cX7_bridge 35 = .ok (.lconst 1, 1) := by decide +kernel
theorem dX7_bridge_36 : decode cX7_bridge 36 = .ok (.ldc2_w 120, 3) := by decide +kernel
theorem dX7_bridge_39 : decode cX7_bridge 39 = .ok (.invokestatic 62, 3) := by decide +kernel
theorem dX7_bridge_42 : decode cX7_bridge 42 = .ok (.ifCond .eq 16, 3) := by decide +kernel
theorem dX7_bridge_45 : decode cX7_bridge 45 = .ok (.iload 5, 2) := by decide +kernel
theorem dX7_bridge_47 : decode cX7_bridge 47 = .ok (.i2l, 1) := by decide +kernel
theorem dX7_bridge_48 : decode cX7_bridge 48 = .ok (.lconst 1, 1) := by decide +kernel
theorem dX7_bridge_49 : decode cX7_bridge 49 = .ok (.ldc2_w 129, 3) := by decide +kernel
theorem dX7_bridge_52 : decode cX7_bridge 52 = .ok (.invokestatic 62, 3) := by decide +kernel
theorem dX7_bridge_55 : decode cX7_bridge 55 = .ok (.ifCond .ne 10, 3) := by decide +kernel
theorem dX7_bridge_58 : decode cX7_bridge 58 = .ok (.aload_n 0, 1) := by decide +kernel
theorem dX7_bridge_59 : decode cX7_bridge 59 = .ok (.bipush (-2), 2) := by decide +kernel
theorem dX7_bridge_61 : decode cX7_bridge 61 = .ok (.invokevirtual 89, 3) := by decide +kernel
theorem dX7_bridge_64 : decode cX7_bridge 64 = .ok (.ireturn, 1) := by decide +kernel
theorem dX7_bridge_65 : decode cX7_bridge 65 = .ok (.aload_n 0, 1) := by decide +kernel
theorem dX7_bridge_66 : decode cX7_bridge 66 = .ok (.getfield 70, 3) := by decide +kernel
theorem dX7_bridge_69 : decode cX7_bridge 69 = .ok (.bipush 16, 2) := by decide +kernel
theorem dX7_bridge_71 : decode cX7_bridge 71 = .ok (.if_icmp .ne 10, 3) := by decide +kernel
theorem dX7_bridge_74 : decode cX7_bridge 74 = .ok (.aload_n 0, 1) := by decide +kernel
theorem dX7_bridge_75 : decode cX7_bridge 75 = .ok (.bipush (-6), 2) := by decide +kernel
theorem dX7_bridge_77 : decode cX7_bridge 77 = .ok (.invokevirtual 89, 3) := by decide +kernel
theorem dX7_bridge_80 : decode cX7_bridge 80 = .ok (.ireturn, 1) := by decide +kernel
theorem dX7_bridge_81 : decode cX7_bridge 81 = .ok (.aload_n 0, 1) := by decide +kernel
theorem dX7_bridge_82 : decode cX7_bridge 82 = .ok (.invokevirtual 131, 3) := by decide +kernel
theorem dX7_bridge_85 : decode cX7_bridge 85 = .ok (.aload_n 0, 1) := by decide +kernel
theorem dX7_bridge_86 : decode cX7_bridge 86 = .ok (.getfield 42, 3) := by decide +kernel
theorem dX7_bridge_89 : decode cX7_bridge 89 = .ok (.aload_n 0, 1) := by decide +kernel
theorem dX7_bridge_90 : decode cX7_bridge 90 = .ok (.getfield 70, 3) := by decide +kernel
theorem dX7_bridge_93 : decode cX7_bridge 93 = .ok (.aaload, 1) := by decide +kernel
theorem dX7_bridge_94 : decode cX7_bridge 94 = .ok (.iconst 0, 1) := by decide +kernel
theorem dX7_bridge_95 : decode cX7_bridge 95 = .ok (.iload_n 1, 1) := by decide +kernel
theorem dX7_bridge_96 : decode cX7_bridge 96 = .ok (.iastore, 1) := by decide +kernel
theorem dX7_bridge_97 : decode cX7_bridge 97 = .ok (.aload_n 0, 1) := by decide +kernel
theorem dX7_bridge_98 : decode cX7_bridge 98 = .ok (.getfield 42, 3) := by decide +kernel
theorem dX7_bridge_101 : decode cX7_bridge 101 = .ok (.aload_n 0, 1) := by decide +kernel
theorem dX7_bridge_102 : decode cX7_bridge 102 = .ok (.getfield 70, 3) := by decide +kernel
theorem dX7_bridge_105 : decode cX7_bridge 105 = .ok (.aaload, 1) := by decide +kernel
theorem dX7_bridge_106 : decode cX7_bridge 106 = .ok (.iconst 1, 1) := by decide +kernel
theorem dX7_bridge_107 : decode cX7_bridge 107 = .ok (.iload_n 2, 1) := by decide +kernel
theorem dX7_bridge_108 : decode cX7_bridge 108 = .ok (.iastore, 1) := by decide +kernel
theorem dX7_bridge_109 : decode cX7_bridge 109 = .ok (.aload_n 0, 1) := by decide +kernel
theorem dX7_bridge_110 : decode cX7_bridge 110 = .ok (.getfield 42, 3) := by decide +kernel
theorem dX7_bridge_113 : decode cX7_bridge 113 = .ok (.aload_n 0, 1) := by decide +kernel
theorem dX7_bridge_114 : decode cX7_bridge 114 = .ok (.getfield 70, 3) := by decide +kernel
theorem dX7_bridge_117 : decode cX7_bridge 117 = .ok (.aaload, 1) := by decide +kernel
theorem dX7_bridge_118 : decode cX7_bridge 118 = .ok (.iconst 2, 1) := by decide +kernel
theorem dX7_bridge_119 : decode cX7_bridge 119 = .ok (.iload_n 3, 1) := by decide +kernel
theorem dX7_bridge_120 : decode cX7_bridge 120 = .ok (.iastore, 1) := by decide +kernel
theorem dX7_bridge_121 : decode cX7_bridge 121 = .ok (.aload_n 0, 1) := by decide +kernel
theorem dX7_bridge_122 : decode cX7_bridge 122 = .ok (.getfield 42, 3) := by decide +kernel
theorem dX7_bridge_125 : decode cX7_bridge 125 = .ok (.aload_n 0, 1) := by decide +kernel
theorem dX7_bridge_126 : decode cX7_bridge 126 = .ok (.getfield 70, 3) := by decide +kernel
theorem dX7_bridge_129 : decode cX7_bridge 129 = .ok (.aaload, 1) := by decide +kernel
theorem dX7_bridge_130 : decode cX7_bridge 130 = .ok (.iconst 3, 1) := by decide +kernel
theorem dX7_bridge_131 : decode cX7_bridge 131 = .ok (.iload 4, 2) := by decide +kernel
theorem dX7_bridge_133 : decode cX7_bridge 133 = .ok (.iastore, 1) := by decide +kernel
theorem dX7_bridge_134 : decode cX7_bridge 134 = .ok (.aload_n 0, 1) := by decide +kernel
theorem dX7_bridge_135 : decode cX7_bridge 135 = .ok (.getfield 42, 3) := by decide +kernel
theorem dX7_bridge_138 : decode cX7_bridge 138 = .ok (.aload_n 0, 1) := by decide +kernel
theorem dX7_bridge_139 : decode cX7_bridge 139 = .ok (.getfield 70, 3) := by decide +kernel
theorem dX7_bridge_142 : decode cX7_bridge 142 = .ok (.aaload, 1) := by decide +kernel
theorem dX7_bridge_143 : decode cX7_bridge 143 = .ok (.iconst 4, 1) := by decide +kernel
theorem dX7_bridge_144 : decode cX7_bridge 144 = .ok (.iload 5, 2) := by decide +kernel
theorem dX7_bridge_146 : decode cX7_bridge 146 = .ok (.iastore, 1) := by decide +kernel
theorem dX7_bridge_147 : decode cX7_bridge 147 = .ok (.aload_n 0, 1) := by decide +kernel
theorem dX7_bridge_148 : decode cX7_bridge 148 = .ok (.dup, 1) := by decide +kernel
theorem dX7_bridge_149 : decode cX7_bridge 149 = .ok (.getfield 70, 3) := by decide +kernel
theorem dX7_bridge_152 : decode cX7_bridge 152 = .ok (.dup_x1, 1) := by decide +kernel
theorem dX7_bridge_153 : decode cX7_bridge 153 = .ok (.iconst 1, 1) := by decide +kernel
theorem dX7_bridge_154 : decode cX7_bridge 154 = .ok (.iadd, 1) := by decide +kernel
theorem dX7_bridge_155 : decode cX7_bridge 155 = .ok (.putfield 70, 3) := by decide +kernel
theorem dX7_bridge_158 : decode cX7_bridge 158 = .ok (.ireturn, 1) := by decide +kernel
theorem dX7_bridgeOf_0 : decode cX7_bridgeOf 0 = .ok (.aload_n 0, 1) := by decide +kernel
theorem dX7_bridgeOf_1 : decode cX7_bridgeOf 1 = .ok (.iload_n 1, 1) := by decide +kernel
theorem dX7_bridgeOf_2 : decode cX7_bridgeOf 2 = .ok (.invokevirtual 97, 3) := by decide +kernel
theorem dX7_bridgeOf_5 : decode cX7_bridgeOf 5 = .ok (.ifCond .eq 26, 3) := by decide +kernel
theorem dX7_bridgeOf_8 : decode cX7_bridgeOf 8 = .ok (.iload_n 2, 1) := by decide +kernel
theorem dX7_bridgeOf_9 : decode cX7_bridgeOf 9 = .ok (.i2l, 1) := by decide +kernel
theorem dX7_bridgeOf_10 : decode cX7_bridgeOf 10 = .ok (.lconst 0, 1) := by decide +kernel
theorem dX7_bridgeOf_11 : decode cX7_bridgeOf 11 = .ok (.ldc2_w 118, 3) := by decide +kernel
theorem dX7_bridgeOf_14 : decode cX7_bridgeOf 14 = .ok (.invokestatic 62, 3) := by decide +kernel
theorem dX7_bridgeOf_17 : decode cX7_bridgeOf 17 = .ok (.ifCond .eq 14, 3) := by decide +kernel
theorem dX7_bridgeOf_20 : decode cX7_bridgeOf 20 = .ok (.aload_n 0, 1) := by decide +kernel
theorem dX7_bridgeOf_21 : decode cX7_bridgeOf 21 = .ok (.getfield 42, 3) := by decide +kernel
theorem dX7_bridgeOf_24 : decode cX7_bridgeOf 24 = .ok (.iload_n 1, 1) := by decide +kernel
theorem dX7_bridgeOf_25 : decode cX7_bridgeOf 25 = .ok (.aaload, 1) := by decide +kernel
theorem dX7_bridgeOf_26 : decode cX7_bridgeOf 26 = .ok (.iload_n 2, 1) := by decide +kernel
theorem dX7_bridgeOf_27 : decode cX7_bridgeOf 27 = .ok (.iaload, 1) := by decide +kernel
theorem dX7_bridgeOf_28 : decode cX7_bridgeOf 28 = .ok (.goto 9, 3) := by decide +kernel
theorem dX7_bridgeOf_31 : decode cX7_bridgeOf 31 = .ok (.aload_n 0, 1) := by decide +kernel
theorem dX7_bridgeOf_32 : decode cX7_bridgeOf 32 = .ok (.bipush (-2), 2) := by decide +kernel
theorem dX7_bridgeOf_34 : decode cX7_bridgeOf 34 = .ok (.invokevirtual 89, 3) := by decide +kernel
theorem dX7_bridgeOf_37 : decode cX7_bridgeOf 37 = .ok (.ireturn, 1) := by decide +kernel
theorem dX7_copy_0 : decode cX7_copy 0 = .ok (.iload_n 1, 1) := by decide +kernel
theorem dX7_copy_1 : decode cX7_copy 1 = .ok (.i2l, 1) := by decide +kernel
theorem dX7_copy_2 : decode cX7_copy 2 = .ok (.lconst 0, 1) := by decide +kernel
theorem dX7_copy_3 : decode cX7_copy 3 = .ok (.ldc2_w 83, 3) := by decide +kernel
theorem dX7_copy_6 : decode cX7_copy 6 = .ok (.invokestatic 62, 3) := by decide +kernel
theorem dX7_copy_9 : decode cX7_copy 9 = .ok (.ifCond .eq 15, 3) := by decide +kernel
theorem dX7_copy_12 : decode cX7_copy 12 = .ok (.iload_n 2, 1) := by decide +kernel
theorem dX7_copy_13 : decode cX7_copy 13 = .ok (.i2l, 1) := by decide +kernel
theorem dX7_copy_14 : decode cX7_copy 14 = .ok (.lconst 0, 1) := by decide +kernel
theorem dX7_copy_15 : decode cX7_copy 15 = .ok (.ldc2_w 83, 3) := by decide +kernel
theorem dX7_copy_18 : decode cX7_copy 18 = .ok (.invokestatic 62, 3) := by decide +kernel
theorem dX7_copy_21 : decode cX7_copy 21 = .ok (.ifCond .ne 10, 3) := by decide +kernel
theorem dX7_copy_24 : decode cX7_copy 24 = .ok (.aload_n 0, 1) := by decide +kernel
theorem dX7_copy_25 : decode cX7_copy 25 = .ok (.bipush (-2), 2) := by decide +kernel
theorem dX7_copy_27 : decode cX7_copy 27 = .ok (.invokevirtual 89, 3) := by decide +kernel
theorem dX7_copy_30 : decode cX7_copy 30 = .ok (.ireturn, 1) := by decide +kernel
theorem dX7_copy_31 : decode cX7_copy 31 = .ok (.aload_n 0, 1) := by decide +kernel
theorem dX7_copy_32 : decode cX7_copy 32 = .ok (.getfield 7, 3) := by decide +kernel
theorem dX7_copy_35 : decode cX7_copy 35 = .ok (.iload_n 1, 1) := by decide +kernel
theorem dX7_copy_36 : decode cX7_copy 36 = .ok (.iaload, 1) := by decide +kernel
theorem dX7_copy_37 : decode cX7_copy 37 = .ok (.iconst 2, 1) := by decide +kernel
theorem dX7_copy_38 : decode cX7_copy 38 = .ok (.if_icmp .eq 48, 3) := by decide +kernel
theorem dX7_copy_41 : decode cX7_copy 41 = .ok (.aload_n 0, 1) := by decide +kernel
theorem dX7_copy_42 : decode cX7_copy 42 = .ok (.getfield 7, 3) := by decide +kernel
theorem dX7_copy_45 : decode cX7_copy 45 = .ok (.iload_n 2, 1) := by decide +kernel
theorem dX7_copy_46 : decode cX7_copy 46 = .ok (.iaload, 1) := by decide +kernel
theorem dX7_copy_47 : decode cX7_copy 47 = .ok (.iconst 2, 1) := by decide +kernel
theorem dX7_copy_48 : decode cX7_copy 48 = .ok (.if_icmp .eq 38, 3) := by decide +kernel
theorem dX7_copy_51 : decode cX7_copy 51 = .ok (.aload_n 0, 1) := by decide +kernel
theorem dX7_copy_52 : decode cX7_copy 52 = .ok (.getfield 7, 3) := by decide +kernel
theorem dX7_copy_55 : decode cX7_copy 55 = .ok (.iload_n 1, 1) := by decide +kernel
theorem dX7_copy_56 : decode cX7_copy 56 = .ok (.iaload, 1) := by decide +kernel
theorem dX7_copy_57 : decode cX7_copy 57 = .ok (.iconst 1, 1) := by decide +kernel
theorem dX7_copy_58 : decode cX7_copy 58 = .ok (.if_icmp .ne 35, 3) := by decide +kernel
theorem dX7_copy_61 : decode cX7_copy 61 = .ok (.aload_n 0, 1) := by decide +kernel
theorem dX7_copy_62 : decode cX7_copy 62 = .ok (.getfield 7, 3) := by decide +kernel
theorem dX7_copy_65 : decode cX7_copy 65 = .ok (.iload_n 2, 1) := by decide +kernel
theorem dX7_copy_66 : decode cX7_copy 66 = .ok (.iaload, 1) := by decide +kernel
theorem dX7_copy_67 : decode cX7_copy 67 = .ok (.iconst 1, 1) := by decide +kernel
theorem dX7_copy_68 : decode cX7_copy 68 = .ok (.if_icmp .ne 25, 3) := by decide +kernel
theorem dX7_copy_71 : decode cX7_copy 71 = .ok (.aload_n 0, 1) := by decide +kernel
theorem dX7_copy_72 : decode cX7_copy 72 = .ok (.getfield 13, 3) := by decide +kernel
theorem dX7_copy_75 : decode cX7_copy 75 = .ok (.iload_n 1, 1) := by decide +kernel
theorem dX7_copy_76 : decode cX7_copy 76 = .ok (.iaload, 1) := by decide +kernel
theorem dX7_copy_77 : decode cX7_copy 77 = .ok (.aload_n 0, 1) := by decide +kernel
theorem dX7_copy_78 : decode cX7_copy 78 = .ok (.getfield 13, 3) := by decide +kernel
theorem dX7_copy_81 : decode cX7_copy 81 = .ok (.iload_n 2, 1) := by decide +kernel
theorem dX7_copy_82 : decode cX7_copy 82 = .ok (.iaload, 1) := by decide +kernel
theorem dX7_copy_83 : decode cX7_copy 83 = .ok (.if_icmp .eq 10, 3) := by decide +kernel
theorem dX7_copy_86 : decode cX7_copy 86 = .ok (.aload_n 0, 1) := by decide +kernel
theorem dX7_copy_87 : decode cX7_copy 87 = .ok (.bipush (-3), 2) := by decide +kernel
theorem dX7_copy_89 : decode cX7_copy 89 = .ok (.invokevirtual 89, 3) := by decide +kernel
theorem dX7_copy_92 : decode cX7_copy 92 = .ok (.ireturn, 1) := by decide +kernel
theorem dX7_copy_93 : decode cX7_copy 93 = .ok (.aload_n 0, 1) := by decide +kernel
theorem dX7_copy_94 : decode cX7_copy 94 = .ok (.getfield 7, 3) := by decide +kernel
theorem dX7_copy_97 : decode cX7_copy 97 = .ok (.iload_n 1, 1) := by decide +kernel
theorem dX7_copy_98 : decode cX7_copy 98 = .ok (.iaload, 1) := by decide +kernel
theorem dX7_copy_99 : decode cX7_copy 99 = .ok (.ifCond .eq 12, 3) := by decide +kernel
theorem dX7_copy_102 : decode cX7_copy 102 = .ok (.aload_n 0, 1) := by decide +kernel
theorem dX7_copy_103 : decode cX7_copy 103 = .ok (.getfield 7, 3) := by decide +kernel
theorem dX7_copy_106 : decode cX7_copy 106 = .ok (.iload_n 2, 1) := by decide +kernel
theorem dX7_copy_107 : decode cX7_copy 107 = .ok (.iaload, 1) := by decide +kernel
theorem dX7_copy_108 : decode cX7_copy 108 = .ok (.ifCond .ne 10, 3) := by decide +kernel
theorem dX7_copy_111 : decode cX7_copy 111 = .ok (.aload_n 0, 1) := by decide +kernel
theorem dX7_copy_112 : decode cX7_copy 112 = .ok (.bipush (-4), 2) := by decide +kernel
theorem dX7_copy_114 : decode cX7_copy 114 = .ok (.invokevirtual 89, 3) := by decide +kernel
theorem dX7_copy_117 : decode cX7_copy 117 = .ok (.ireturn, 1) := by decide +kernel
theorem dX7_copy_118 : decode cX7_copy 118 = .ok (.iload 5, 2) := by decide +kernel
theorem dX7_copy_120 : decode cX7_copy 120 = .ok (.ifCond .lt 61, 3) := by decide +kernel
theorem dX7_copy_123 : decode cX7_copy 123 = .ok (.iload_n 3, 1) := by decide +kernel
theorem dX7_copy_124 : decode cX7_copy 124 = .ok (.ifCond .lt 57, 3) := by decide +kernel
theorem dX7_copy_127 : decode cX7_copy 127 = .ok (.iload 4, 2) := by decide +kernel
theorem dX7_copy_129 : decode cX7_copy 129 = .ok (.ifCond .lt 52, 3) := by decide +kernel
theorem dX7_copy_132 : decode cX7_copy 132 = .ok (.iload 5, 2) := by decide +kernel
theorem dX7_copy_134 : decode cX7_copy 134 = .ok (.aload_n 0, 1) := by decide +kernel
theorem dX7_copy_135 : decode cX7_copy 135 = .ok (.getfield 16, 3) := by decide +kernel
theorem dX7_copy_138 : decode cX7_copy 138 = .ok (.iload_n 1, 1) := by decide +kernel
theorem dX7_copy_139 : decode cX7_copy 139 = .ok (.iaload, 1) := by decide +kernel
theorem dX7_copy_140 : decode cX7_copy 140 = .ok (.if_icmp .gt 41, 3) := by decide +kernel
theorem dX7_copy_143 : decode cX7_copy 143 = .ok (.iload 5, 2) := by decide +kernel
theorem dX7_copy_145 : decode cX7_copy 145 = .ok (.aload_n 0, 1) := by decide +kernel
theorem dX7_copy_146 : decode cX7_copy 146 = .ok (.getfield 16, 3) := by decide +kernel
theorem dX7_copy_149 : decode cX7_copy 149 = .ok (.iload_n 2, 1) := by decide +kernel
theorem dX7_copy_150 : decode cX7_copy 150 = .ok (.iaload, 1) := by decide +kernel
theorem dX7_copy_151 : decode cX7_copy 151 = .ok (.if_icmp .gt 30, 3) := by decide +kernel
theorem dX7_copy_154 : decode cX7_copy 154 = .ok (.iload_n 3, 1) := by decide +kernel
theorem dX7_copy_155 : decode cX7_copy 155 = .ok (.aload_n 0, 1) := by decide +kernel
theorem dX7_copy_156 : decode cX7_copy 156 = .ok (.getfield 16, 3) := by decide +kernel
theorem dX7_copy_159 : decode cX7_copy 159 = .ok (.iload_n 1, 1) := by decide +kernel
theorem dX7_copy_160 : decode cX7_copy 160 = .ok (.iaload, 1) := by decide +kernel
theorem dX7_copy_161 : decode cX7_copy 161 = .ok (.iload 5, 2) := by decide +kernel
theorem dX7_copy_163 : decode cX7_copy 163 = .ok (.isub, 1) := by decide +kernel
theorem dX7_copy_164 : decode cX7_copy 164 = .ok (.if_icmp .gt 17, 3) := by decide +kernel
theorem dX7_copy_167 : decode cX7_copy 167 = .ok (.iload 4, 2) := by decide +kernel
theorem dX7_copy_169 : decode cX7_copy 169 = .ok (.aload_n 0, 1) := by decide +kernel
theorem dX7_copy_170 : decode cX7_copy 170 = .ok (.getfield 16, 3) := by decide +kernel
theorem dX7_copy_173 : decode cX7_copy 173 = .ok (.iload_n 2, 1) := by decide +kernel
theorem dX7_copy_174 : decode cX7_copy 174 = .ok (.iaload, 1) := by decide +kernel
theorem dX7_copy_175 : decode cX7_copy 175 = .ok (.iload 5, 2) := by decide +kernel
theorem dX7_copy_177 : decode cX7_copy 177 = .ok (.isub, 1) := by decide +kernel
theorem dX7_copy_178 : decode cX7_copy 178 = .ok (.if_icmp .le 10, 3) := by decide +kernel
theorem dX7_copy_181 : decode cX7_copy 181 = .ok (.aload_n 0, 1) := by decide +kernel
theorem dX7_copy_182 : decode cX7_copy 182 = .ok (.bipush (-2), 2) := by decide +kernel
theorem dX7_copy_184 : decode cX7_copy 184 = .ok (.invokevirtual 89, 3) := by decide +kernel
theorem dX7_copy_187 : decode cX7_copy 187 = .ok (.ireturn, 1) := by decide +kernel
theorem dX7_copy_188 : decode cX7_copy 188 = .ok (.iconst 0, 1) := by decide +kernel
theorem dX7_copy_189 : decode cX7_copy 189 = .ok (.istore 6, 2) := by decide +kernel
theorem dX7_copy_191 : decode cX7_copy 191 = .ok (.iload 6, 2) := by decide +kernel
theorem dX7_copy_193 : decode cX7_copy 193 = .ok (.iload 5, 2) := by decide +kernel
theorem dX7_copy_195 : decode cX7_copy 195 = .ok (.if_icmp .ge 27, 3) := by decide +kernel
theorem dX7_copy_198 : decode cX7_copy 198 = .ok (.aload_n 0, 1) := by decide +kernel
theorem dX7_copy_199 : decode cX7_copy 199 = .ok (.getfield 24, 3) := by decide +kernel
theorem dX7_copy_202 : decode cX7_copy 202 = .ok (.iload 6, 2) := by decide +kernel
theorem dX7_copy_204 : decode cX7_copy 204 = .ok (.aload_n 0, 1) := by decide +kernel
theorem dX7_copy_205 : decode cX7_copy 205 = .ok (.getfield 21, 3) := by decide +kernel
theorem dX7_copy_208 : decode cX7_copy 208 = .ok (.iload_n 1, 1) := by decide +kernel
theorem dX7_copy_209 : decode cX7_copy 209 = .ok (.aaload, 1) := by decide +kernel
theorem dX7_copy_210 : decode cX7_copy 210 = .ok (.iload_n 3, 1) := by decide +kernel
theorem dX7_copy_211 : decode cX7_copy 211 = .ok (.iload 6, 2) := by decide +kernel
theorem dX7_copy_213 : decode cX7_copy 213 = .ok (.iadd, 1) := by decide +kernel
theorem dX7_copy_214 : decode cX7_copy 214 = .ok (.laload, 1) := by decide +kernel
theorem dX7_copy_215 : decode cX7_copy 215 = .ok (.lastore, 1) := by decide +kernel
theorem dX7_copy_216 : decode cX7_copy 216 = .ok (.iinc 6 1, 3) := by decide +kernel
theorem dX7_copy_219 : decode cX7_copy 219 = .ok (.goto (-28), 3) := by decide +kernel
theorem dX7_copy_222 : decode cX7_copy 222 = .ok (.iconst 0, 1) := by decide +kernel
theorem dX7_copy_223 : decode cX7_copy 223 = .ok (.istore 6, 2) := by decide +kernel
theorem dX7_copy_225 : decode cX7_copy 225 = .ok (.iload 6, 2) := by decide +kernel
theorem dX7_copy_227 : decode cX7_copy 227 = .ok (.iload 5, 2) := by decide +kernel
theorem dX7_copy_229 : decode cX7_copy 229 = .ok (.if_icmp .ge 28, 3) := by decide +kernel
theorem dX7_copy_232 : decode cX7_copy 232 = .ok (.aload_n 0, 1) := by decide +kernel
theorem dX7_copy_233 : decode cX7_copy 233 = .ok (.getfield 21, 3) := by decide +kernel
theorem dX7_copy_236 : decode cX7_copy 236 = .ok (.iload_n 2, 1) := by decide +kernel
theorem dX7_copy_237 : decode cX7_copy 237 = .ok (.aaload, 1) := by decide +kernel
theorem dX7_copy_238 : decode cX7_copy 238 = .ok (.iload 4, 2) := by decide +kernel
theorem dX7_copy_240 : decode cX7_copy 240 = .ok (.iload 6, 2) := by decide +kernel
theorem dX7_copy_242 : decode cX7_copy 242 = .ok (.iadd, 1) := by decide +kernel
theorem dX7_copy_243 : decode cX7_copy 243 = .ok (.aload_n 0, 1) := by decide +kernel
theorem dX7_copy_244 : decode cX7_copy 244 = .ok (.getfield 24, 3) := by decide +kernel
theorem dX7_copy_247 : decode cX7_copy 247 = .ok (.iload 6, 2) := by decide +kernel
theorem dX7_copy_249 : decode cX7_copy 249 = .ok (.laload, 1) := by decide +kernel
theorem dX7_copy_250 : decode cX7_copy 250 = .ok (.lastore, 1) := by decide +kernel
theorem dX7_copy_251 : decode cX7_copy 251 = .ok (.iinc 6 1, 3) := by decide +kernel
theorem dX7_copy_254 : decode cX7_copy 254 = .ok (.goto (-29), 3) := by decide +kernel
theorem dX7_copy_257 : decode cX7_copy 257 = .ok (.iload 5, 2) := by decide +kernel
theorem dX7_copy_259 : decode cX7_copy 259 = .ok (.ireturn, 1) := by decide +kernel
theorem dX7_element_0 : decode cX7_element 0 = .ok (.iload_n 1, 1) := by decide +kernel
theorem dX7_element_1 : decode cX7_element 1 = .ok (.i2l, 1) := by decide +kernel
theorem dX7_element_2 : decode cX7_element 2 = .ok (.lconst 0, 1) := by decide +kernel
theorem dX7_element_3 : decode cX7_element 3 = .ok (.ldc2_w 83, 3) := by decide +kernel
theorem dX7_element_6 : decode cX7_element 6 = .ok (.invokestatic 62, 3) := by decide +kernel
theorem dX7_element_9 : decode cX7_element 9 = .ok (.ifCond .eq 42, 3) := by decide +kernel
theorem dX7_element_12 : decode cX7_element 12 = .ok (.aload_n 0, 1) := by decide +kernel
theorem dX7_element_13 : decode cX7_element 13 = .ok (.getfield 7, 3) := by decide +kernel
theorem dX7_element_16 : decode cX7_element 16 = .ok (.iload_n 1, 1) := by decide +kernel
theorem dX7_element_17 : decode cX7_element 17 = .ok (.iaload, 1) := by decide +kernel
theorem dX7_element_18 : decode cX7_element 18 = .ok (.iconst 1, 1) := by decide +kernel
theorem dX7_element_19 : decode cX7_element 19 = .ok (.if_icmp .ne 32, 3) := by decide +kernel
theorem dX7_element_22 : decode cX7_element 22 = .ok (.iload_n 2, 1) := by decide +kernel
theorem dX7_element_23 : decode cX7_element 23 = .ok (.i2l, 1) := by decide +kernel
theorem dX7_element_24 : decode cX7_element 24 = .ok (.lconst 0, 1) := by decide +kernel
theorem dX7_element_25 : decode cX7_element 25 = .ok (.aload_n 0, 1) := by decide +kernel
theorem dX7_element_26 : decode cX7_element 26 = .ok (.getfield 16, 3) := by decide +kernel
theorem dX7_element_29 : decode cX7_element 29 = .ok (.iload_n 1, 1) := by decide +kernel
theorem dX7_element_30 : decode cX7_element 30 = .ok (.iaload, 1) := by decide +kernel
theorem dX7_element_31 : decode cX7_element 31 = .ok (.iconst 1, 1) := by decide +kernel
theorem dX7_element_32 : decode cX7_element 32 = .ok (.isub, 1) := by decide +kernel
theorem dX7_element_33 : decode cX7_element 33 = .ok (.i2l, 1) := by decide +kernel
theorem dX7_element_34 : decode cX7_element 34 = .ok (.invokestatic 62, 3) := by decide +kernel
theorem dX7_element_37 : decode cX7_element 37 = .ok (.ifCond .eq 14, 3) := by decide +kernel
theorem dX7_element_40 : decode cX7_element 40 = .ok (.aload_n 0, 1) := by decide +kernel
theorem dX7_element_41 : decode cX7_element 41 = .ok (.getfield 21, 3) := by decide +kernel
theorem dX7_element_44 : decode cX7_element 44 = .ok (.iload_n 1, 1) := by decide +kernel
theorem dX7_element_45 : decode cX7_element 45 = .ok (.aaload, 1) := by decide +kernel
theorem dX7_element_46 : decode cX7_element 46 = .ok (.iload_n 2, 1) := by decide +kernel
theorem dX7_element_47 : decode cX7_element 47 = .ok (.laload, 1) := by decide +kernel
theorem dX7_element_48 : decode cX7_element 48 = .ok (.goto 4, 3) := by decide +kernel
theorem dX7_element_51 : decode cX7_element 51 = .ok (.lconst 0, 1) := by decide +kernel
theorem dX7_element_52 : decode cX7_element 52 = .ok (.lreturn, 1) := by decide +kernel
theorem dX7_goes_0 : decode cX7_goes 0 = .ok (.aload_n 0, 1) := by decide +kernel
theorem dX7_goes_1 : decode cX7_goes 1 = .ok (.iload_n 1, 1) := by decide +kernel
theorem dX7_goes_2 : decode cX7_goes 2 = .ok (.iload_n 2, 1) := by decide +kernel
theorem dX7_goes_3 : decode cX7_goes 3 = .ok (.invokevirtual 260, 3) := by decide +kernel
theorem dX7_goes_6 : decode cX7_goes 6 = .ok (.ifCond .eq 24, 3) := by decide +kernel
theorem dX7_goes_9 : decode cX7_goes 9 = .ok (.aload_n 0, 1) := by decide +kernel
theorem dX7_goes_10 : decode cX7_goes 10 = .ok (.iload_n 3, 1) := by decide +kernel
theorem dX7_goes_11 : decode cX7_goes 11 = .ok (.invokevirtual 126, 3) := by decide +kernel
theorem dX7_goes_14 : decode cX7_goes 14 = .ok (.ifCond .eq 16, 3) := by decide +kernel
theorem dX7_goes_17 : decode cX7_goes 17 = .ok (.iload 4, 2) := by decide +kernel
theorem dX7_goes_19 : decode cX7_goes 19 = .ok (.i2l, 1) := by decide +kernel
theorem dX7_goes_20 : decode cX7_goes 20 = .ok (.lconst 0, 1) := by decide +kernel
theorem dX7_goes_21 : decode cX7_goes 21 = .ok (.ldc2_w 85, 3) := by decide +kernel
theorem dX7_goes_24 : decode cX7_goes 24 = .ok (.invokestatic 62, 3) := by decide +kernel
theorem dX7_goes_27 : decode cX7_goes 27 = .ok (.ifCond .ne 10, 3) := by decide +kernel
theorem dX7_goes_30 : decode cX7_goes 30 = .ok (.aload_n 0, 1) := by decide +kernel
theorem dX7_goes_31 : decode cX7_goes 31 = .ok (.bipush (-2), 2) := by decide +kernel
theorem dX7_goes_33 : decode cX7_goes 33 = .ok (.invokevirtual 89, 3) := by decide +kernel
theorem dX7_goes_36 : decode cX7_goes 36 = .ok (.ireturn, 1) := by decide +kernel
theorem dX7_goes_37 : decode cX7_goes 37 = .ok (.aload_n 0, 1) := by decide +kernel
theorem dX7_goes_38 : decode cX7_goes 38 = .ok (.iload_n 1, 1) := by decide +kernel
theorem dX7_goes_39 : decode cX7_goes 39 = .ok (.iload_n 2, 1) := by decide +kernel
theorem dX7_goes_40 : decode cX7_goes 40 = .ok (.iload_n 3, 1) := by decide +kernel
theorem dX7_goes_41 : decode cX7_goes 41 = .ok (.invokevirtual 281, 3) := by decide +kernel
theorem dX7_goes_44 : decode cX7_goes 44 = .ok (.istore 5, 2) := by decide +kernel
theorem dX7_goes_46 : decode cX7_goes 46 = .ok (.iload 4, 2) := by decide +kernel
theorem dX7_goes_48 : decode cX7_goes 48 = .ok (.ifCond .ne 14, 3) := by decide +kernel
theorem dX7_goes_51 : decode cX7_goes 51 = .ok (.iload 5, 2) := by decide +kernel
theorem dX7_goes_53 : decode cX7_goes 53 = .ok (.ifCond .eq 7, 3) := by decide +kernel
theorem dX7_goes_56 : decode cX7_goes 56 = .ok (.iconst 1, 1) := by decide +kernel
theorem dX7_goes_57 : decode cX7_goes 57 = .ok (.goto 4, 3) := by decide +kernel
theorem dX7_goes_60 : decode cX7_goes 60 = .ok (.iconst 0, 1) := by decide +kernel
theorem dX7_goes_61 : decode cX7_goes 61 = .ok (.ireturn, 1) := by decide +kernel
theorem dX7_goes_62 : decode cX7_goes 62 = .ok (.iload 4, 2) := by decide +kernel
theorem dX7_goes_64 : decode cX7_goes 64 = .ok (.iconst 3, 1) := by decide +kernel
theorem dX7_goes_65 : decode cX7_goes 65 = .ok (.if_icmp .ne 11, 3) := by decide +kernel
theorem dX7_goes_68 : decode cX7_goes 68 = .ok (.aload_n 0, 1) := by decide +kernel
theorem dX7_goes_69 : decode cX7_goes 69 = .ok (.iload_n 1, 1) := by decide +kernel
theorem dX7_goes_70 : decode cX7_goes 70 = .ok (.iload_n 2, 1) := by decide +kernel
theorem dX7_goes_71 : decode cX7_goes 71 = .ok (.iload_n 3, 1) := by decide +kernel
theorem dX7_goes_72 : decode cX7_goes 72 = .ok (.invokevirtual 274, 3) := by decide +kernel
theorem dX7_goes_75 : decode cX7_goes 75 = .ok (.ireturn, 1) := by decide +kernel
theorem dX7_goes_76 : decode cX7_goes 76 = .ok (.iload 5, 2) := by decide +kernel
theorem dX7_goes_78 : decode cX7_goes 78 = .ok (.ifCond .ne 10, 3) := by decide +kernel
theorem dX7_goes_81 : decode cX7_goes 81 = .ok (.aload_n 0, 1) := by decide +kernel
theorem dX7_goes_82 : decode cX7_goes 82 = .ok (.bipush (-5), 2) := by decide +kernel
theorem dX7_goes_84 : decode cX7_goes 84 = .ok (.invokevirtual 89, 3) := by decide +kernel
theorem dX7_goes_87 : decode cX7_goes 87 = .ok (.ireturn, 1) := by decide +kernel
theorem dX7_goes_88 : decode cX7_goes 88 = .ok (.iload 4, 2) := by decide +kernel
theorem dX7_goes_90 : decode cX7_goes 90 = .ok (.iconst 1, 1) := by decide +kernel
theorem dX7_goes_91 : decode cX7_goes 91 = .ok (.if_icmp .ne 14, 3) := by decide +kernel
theorem dX7_goes_94 : decode cX7_goes 94 = .ok (.aload_n 0, 1) := by decide +kernel
theorem dX7_goes_95 : decode cX7_goes 95 = .ok (.iload_n 1, 1) := by decide +kernel
theorem dX7_goes_96 : decode cX7_goes 96 = .ok (.iload_n 2, 1) := by decide +kernel
theorem dX7_goes_97 : decode cX7_goes 97 = .ok (.iload_n 3, 1) := by decide +kernel
theorem dX7_goes_98 : decode cX7_goes 98 = .ok (.iconst 1, 1) := by decide +kernel
theorem dX7_goes_99 : decode cX7_goes 99 = .ok (.invokevirtual 285, 3) := by decide +kernel
theorem dX7_goes_102 : decode cX7_goes 102 = .ok (.goto 27, 3) := by decide +kernel
theorem dX7_goes_105 : decode cX7_goes 105 = .ok (.iload 4, 2) := by decide +kernel
theorem dX7_goes_107 : decode cX7_goes 107 = .ok (.iconst 2, 1) := by decide +kernel
theorem dX7_goes_108 : decode cX7_goes 108 = .ok (.if_icmp .ne 13, 3) := by decide +kernel
theorem dX7_goes_111 : decode cX7_goes 111 = .ok (.aload_n 0, 1) := by decide +kernel
theorem dX7_goes_112 : decode cX7_goes 112 = .ok (.iload_n 1, 1) := by decide +kernel
theorem dX7_goes_113 : decode cX7_goes 113 = .ok (.iload_n 2, 1) := by decide +kernel
theorem dX7_goes_114 : decode cX7_goes 114 = .ok (.iload_n 3, 1) := by decide +kernel
theorem dX7_goes_115 : decode cX7_goes 115 = .ok (.invokevirtual 289, 3) := by decide +kernel
theorem dX7_goes_118 : decode cX7_goes 118 = .ok (.goto 11, 3) := by decide +kernel
theorem dX7_goes_121 : decode cX7_goes 121 = .ok (.aload_n 0, 1) := by decide +kernel
theorem dX7_goes_122 : decode cX7_goes 122 = .ok (.iload_n 1, 1) := by decide +kernel
theorem dX7_goes_123 : decode cX7_goes 123 = .ok (.iload_n 2, 1) := by decide +kernel
theorem dX7_goes_124 : decode cX7_goes 124 = .ok (.iload_n 3, 1) := by decide +kernel
theorem dX7_goes_125 : decode cX7_goes 125 = .ok (.iconst 0, 1) := by decide +kernel
theorem dX7_goes_126 : decode cX7_goes 126 = .ok (.invokevirtual 277, 3) := by decide +kernel
theorem dX7_goes_129 : decode cX7_goes 129 = .ok (.ireturn, 1) := by decide +kernel
theorem dX7_holds_0 : decode cX7_holds 0 = .ok (.iload_n 1, 1) := by decide +kernel
theorem dX7_holds_1 : decode cX7_holds 1 = .ok (.i2l, 1) := by decide +kernel
theorem dX7_holds_2 : decode cX7_holds 2 = .ok (.lconst 0, 1) := by decide +kernel
theorem dX7_holds_3 : decode cX7_holds 3 = .ok (.ldc2_w 83, 3) := by decide +kernel
theorem dX7_holds_6 : decode cX7_holds 6 = .ok (.invokestatic 62, 3) := by decide +kernel
theorem dX7_holds_9 : decode cX7_holds 9 = .ok (.ifCond .eq 12, 3) := by decide +kernel
theorem dX7_holds_12 : decode cX7_holds 12 = .ok (.aload_n 0, 1) := by decide +kernel
theorem dX7_holds_13 : decode cX7_holds 13 = .ok (.getfield 7, 3) := by decide +kernel
theorem dX7_holds_16 : decode cX7_holds 16 = .ok (.iload_n 1, 1) := by decide +kernel
theorem dX7_holds_17 : decode cX7_holds 17 = .ok (.iaload, 1) := by decide +kernel
theorem dX7_holds_18 : decode cX7_holds 18 = .ok (.ifCond .ne 5, 3) := by decide +kernel
theorem dX7_holds_21 : decode cX7_holds 21 = .ok (.iconst (-1), 1) := by decide +kernel
theorem dX7_holds_22 : decode cX7_holds 22 = .ok (.ireturn, 1) := by decide +kernel
theorem dX7_holds_23 : decode cX7_holds 23 = .ok (.aload_n 0, 1) := by decide +kernel
theorem dX7_holds_24 : decode cX7_holds 24 = .ok (.getfield 7, 3) := by decide +kernel
theorem dX7_holds_27 : decode cX7_holds 27 = .ok (.iload_n 1, 1) := by decide +kernel
theorem dX7_holds_28 : decode cX7_holds 28 = .ok (.iaload, 1) := by decide +kernel
theorem dX7_holds_29 : decode cX7_holds 29 = .ok (.iconst 1, 1) := by decide +kernel
theorem dX7_holds_30 : decode cX7_holds 30 = .ok (.if_icmp .ne 12, 3) := by decide +kernel
theorem dX7_holds_33 : decode cX7_holds 33 = .ok (.aload_n 0, 1) := by decide +kernel
theorem dX7_holds_34 : decode cX7_holds 34 = .ok (.getfield 13, 3) := by decide +kernel
theorem dX7_holds_37 : decode cX7_holds 37 = .ok (.iload_n 1, 1) := by decide +kernel
theorem dX7_holds_38 : decode cX7_holds 38 = .ok (.iaload, 1) := by decide +kernel
theorem dX7_holds_39 : decode cX7_holds 39 = .ok (.goto 12, 3) := by decide +kernel
theorem dX7_holds_42 : decode cX7_holds 42 = .ok (.bipush 10, 2) := by decide +kernel
theorem dX7_holds_44 : decode cX7_holds 44 = .ok (.aload_n 0, 1) := by decide +kernel
theorem dX7_holds_45 : decode cX7_holds 45 = .ok (.getfield 28, 3) := by decide +kernel
theorem dX7_holds_48 : decode cX7_holds 48 = .ok (.iload_n 1, 1) := by decide +kernel
theorem dX7_holds_49 : decode cX7_holds 49 = .ok (.iaload, 1) := by decide +kernel
theorem dX7_holds_50 : decode cX7_holds 50 = .ok (.iadd, 1) := by decide +kernel
theorem dX7_holds_51 : decode cX7_holds 51 = .ok (.ireturn, 1) := by decide +kernel
theorem dX7_length_0 : decode cX7_length 0 = .ok (.aload_n 0, 1) := by decide +kernel
theorem dX7_length_1 : decode cX7_length 1 = .ok (.iload_n 1, 1) := by decide +kernel
theorem dX7_length_2 : decode cX7_length 2 = .ok (.invokevirtual 76, 3) := by decide +kernel
theorem dX7_length_5 : decode cX7_length 5 = .ok (.ifCond .eq 11, 3) := by decide +kernel
theorem dX7_length_8 : decode cX7_length 8 = .ok (.aload_n 0, 1) := by decide +kernel
theorem dX7_length_9 : decode cX7_length 9 = .ok (.iload_n 1, 1) := by decide +kernel
theorem dX7_length_10 : decode cX7_length 10 = .ok (.invokevirtual 257, 3) := by decide +kernel
theorem dX7_length_13 : decode cX7_length 13 = .ok (.goto 9, 3) := by decide +kernel
theorem dX7_length_16 : decode cX7_length 16 = .ok (.aload_n 0, 1) := by decide +kernel
theorem dX7_length_17 : decode cX7_length 17 = .ok (.bipush (-2), 2) := by decide +kernel
theorem dX7_length_19 : decode cX7_length 19 = .ok (.invokevirtual 89, 3) := by decide +kernel
theorem dX7_length_22 : decode cX7_length 22 = .ok (.ireturn, 1) := by decide +kernel
theorem dX7_needs_0 : decode cX7_needs 0 = .ok (.aload_n 0, 1) := by decide +kernel
theorem dX7_needs_1 : decode cX7_needs 1 = .ok (.iload_n 1, 1) := by decide +kernel
theorem dX7_needs_2 : decode cX7_needs 2 = .ok (.iload_n 2, 1) := by decide +kernel
theorem dX7_needs_3 : decode cX7_needs 3 = .ok (.invokevirtual 260, 3) := by decide +kernel
theorem dX7_needs_6 : decode cX7_needs 6 = .ok (.ifCond .eq 21, 3) := by decide +kernel
theorem dX7_needs_9 : decode cX7_needs 9 = .ok (.aload_n 0, 1) := by decide +kernel
theorem dX7_needs_10 : decode cX7_needs 10 = .ok (.iload_n 3, 1) := by decide +kernel
theorem dX7_needs_11 : decode cX7_needs 11 = .ok (.invokevirtual 97, 3) := by decide +kernel
theorem dX7_needs_14 : decode cX7_needs 14 = .ok (.ifCond .eq 13, 3) := by decide +kernel
theorem dX7_needs_17 : decode cX7_needs 17 = .ok (.aload_n 0, 1) := by decide +kernel
theorem dX7_needs_18 : decode cX7_needs 18 = .ok (.iload_n 1, 1) := by decide +kernel
theorem dX7_needs_19 : decode cX7_needs 19 = .ok (.iload_n 2, 1) := by decide +kernel
theorem dX7_needs_20 : decode cX7_needs 20 = .ok (.iload_n 3, 1) := by decide +kernel
theorem dX7_needs_21 : decode cX7_needs 21 = .ok (.invokevirtual 271, 3) := by decide +kernel
theorem dX7_needs_24 : decode cX7_needs 24 = .ok (.goto 9, 3) := by decide +kernel
theorem dX7_needs_27 : decode cX7_needs 27 = .ok (.aload_n 0, 1) := by decide +kernel
theorem dX7_needs_28 : decode cX7_needs 28 = .ok (.bipush (-2), 2) := by decide +kernel
theorem dX7_needs_30 : decode cX7_needs 30 = .ok (.invokevirtual 89, 3) := by decide +kernel
theorem dX7_needs_33 : decode cX7_needs 33 = .ok (.ireturn, 1) := by decide +kernel
theorem dX7_newBridge_0 : decode cX7_newBridge 0 = .ok (.iconst 0, 1) := by decide +kernel
theorem dX7_newBridge_1 : decode cX7_newBridge 1 = .ok (.istore_n 1, 1) := by decide +kernel
theorem dX7_newBridge_2 : decode cX7_newBridge 2 = .ok (.iload_n 1, 1) := by decide +kernel
theorem dX7_newBridge_3 : decode cX7_newBridge 3 = .ok (.bipush 10, 2) := by decide +kernel
theorem dX7_newBridge_5 : decode cX7_newBridge 5 = .ok (.if_icmp .ge 21, 3) := by decide +kernel
theorem dX7_newBridge_8 : decode cX7_newBridge 8 = .ok (.aload_n 0, 1) := by decide +kernel
theorem dX7_newBridge_9 : decode cX7_newBridge 9 = .ok (.getfield 42, 3) := by decide +kernel
theorem dX7_newBridge_12 : decode cX7_newBridge 12 = .ok (.aload_n 0, 1) := by decide +kernel
theorem dX7_newBridge_13 : decode cX7_newBridge 13 = .ok (.getfield 70, 3) := by decide +kernel
theorem dX7_newBridge_16 : decode cX7_newBridge 16 = .ok (.aaload, 1) := by decide +kernel
theorem dX7_newBridge_17 : decode cX7_newBridge 17 = .ok (.iload_n 1, 1) := by decide +kernel
theorem dX7_newBridge_18 : decode cX7_newBridge 18 = .ok (.iconst 0, 1) := by decide +kernel
theorem dX7_newBridge_19 : decode cX7_newBridge 19 = .ok (.iastore, 1) := by decide +kernel
theorem dX7_newBridge_20 : decode cX7_newBridge 20 = .ok (.iinc 1 1, 3) := by decide +kernel
theorem dX7_newBridge_23 : decode cX7_newBridge 23 = .ok (.goto (-21), 3) := by decide +kernel
theorem dX7_newBridge_26 : decode cX7_newBridge 26 = .ok (.return_, 1) := by decide +kernel
theorem dX7_newRoad_0 : decode cX7_newRoad 0 = .ok (.aload_n 0, 1) := by decide +kernel
theorem dX7_newRoad_1 : decode cX7_newRoad 1 = .ok (.getfield 39, 3) := by decide +kernel
theorem dX7_newRoad_4 : decode cX7_newRoad 4 = .ok (.aload_n 0, 1) := by decide +kernel
theorem dX7_newRoad_5 : decode cX7_newRoad 5 = .ok (.getfield 66, 3) := by decide +kernel
theorem dX7_newRoad_8 : decode cX7_newRoad 8 = .ok (.aaload, 1) := by decide +kernel
theorem dX7_newRoad_9 : decode cX7_newRoad 9 = .ok (.astore_n 3, 1) := by decide +kernel
theorem dX7_newRoad_10 : decode cX7_newRoad 10 = .ok (.aload_n 3, 1) := by decide +kernel
theorem dX7_newRoad_11 : decode cX7_newRoad 11 = .ok (.iconst 0, 1) := by decide +kernel
theorem dX7_newRoad_12 : decode cX7_newRoad 12 = .ok (.iload_n 1, 1) := by decide +kernel
theorem dX7_newRoad_13 : decode cX7_newRoad 13 = .ok (.iastore, 1) := by decide +kernel
theorem dX7_newRoad_14 : decode cX7_newRoad 14 = .ok (.aload_n 3, 1) := by decide +kernel
theorem dX7_newRoad_15 : decode cX7_newRoad 15 = .ok (.iconst 1, 1) := by decide +kernel
theorem dX7_newRoad_16 : decode cX7_newRoad 16 = .ok (.iload_n 2, 1) := by decide +kernel
theorem dX7_newRoad_17 : decode cX7_newRoad 17 = .ok (.iastore, 1) := by decide +kernel
theorem dX7_newRoad_18 : decode cX7_newRoad 18 = .ok (.aload_n 3, 1) := by decide +kernel
theorem dX7_newRoad_19 : decode cX7_newRoad 19 = .ok (.iconst 2, 1) := by decide +kernel
theorem dX7_newRoad_20 : decode cX7_newRoad 20 = .ok (.iconst 0, 1) := by decide +kernel
theorem dX7_newRoad_21 : decode cX7_newRoad 21 = .ok (.iastore, 1) := by decide +kernel
theorem dX7_newRoad_22 : decode cX7_newRoad 22 = .ok (.aload_n 3, 1) := by decide +kernel
theorem dX7_newRoad_23 : decode cX7_newRoad 23 = .ok (.iconst 3, 1) := by decide +kernel
theorem dX7_newRoad_24 : decode cX7_newRoad 24 = .ok (.iconst 0, 1) := by decide +kernel
theorem dX7_newRoad_25 : decode cX7_newRoad 25 = .ok (.iastore, 1) := by decide +kernel
theorem dX7_newRoad_26 : decode cX7_newRoad 26 = .ok (.aload_n 3, 1) := by decide +kernel
theorem dX7_newRoad_27 : decode cX7_newRoad 27 = .ok (.iconst 4, 1) := by decide +kernel
theorem dX7_newRoad_28 : decode cX7_newRoad 28 = .ok (.bipush 99, 2) := by decide +kernel
theorem dX7_newRoad_30 : decode cX7_newRoad 30 = .ok (.iastore, 1) := by decide +kernel
theorem dX7_newRoad_31 : decode cX7_newRoad 31 = .ok (.aload_n 3, 1) := by decide +kernel
theorem dX7_newRoad_32 : decode cX7_newRoad 32 = .ok (.iconst 5, 1) := by decide +kernel
theorem dX7_newRoad_33 : decode cX7_newRoad 33 = .ok (.iconst 0, 1) := by decide +kernel
theorem dX7_newRoad_34 : decode cX7_newRoad 34 = .ok (.iastore, 1) := by decide +kernel
theorem dX7_newRoad_35 : decode cX7_newRoad 35 = .ok (.aload_n 3, 1) := by decide +kernel
theorem dX7_newRoad_36 : decode cX7_newRoad 36 = .ok (.bipush 6, 2) := by decide +kernel
theorem dX7_newRoad_38 : decode cX7_newRoad 38 = .ok (.iconst 0, 1) := by decide +kernel
theorem dX7_newRoad_39 : decode cX7_newRoad 39 = .ok (.iastore, 1) := by decide +kernel
theorem dX7_newRoad_40 : decode cX7_newRoad 40 = .ok (.return_, 1) := by decide +kernel
theorem dX7_part_0 : decode cX7_part 0 = .ok (.iload_n 1, 1) := by decide +kernel
theorem dX7_part_1 : decode cX7_part 1 = .ok (.i2l, 1) := by decide +kernel
theorem dX7_part_2 : decode cX7_part 2 = .ok (.lconst 1, 1) := by decide +kernel
theorem dX7_part_3 : decode cX7_part 3 = .ok (.ldc2_w 120, 3) := by decide +kernel
theorem dX7_part_6 : decode cX7_part 6 = .ok (.invokestatic 62, 3) := by decide +kernel
theorem dX7_part_9 : decode cX7_part 9 = .ok (.ifCond .eq 15, 3) := by decide +kernel
theorem dX7_part_12 : decode cX7_part 12 = .ok (.iload_n 2, 1) := by decide +kernel
theorem dX7_part_13 : decode cX7_part 13 = .ok (.i2l, 1) := by decide +kernel
theorem dX7_part_14 : decode cX7_part 14 = .ok (.lconst 0, 1) := by decide +kernel
theorem dX7_part_15 : decode cX7_part 15 = .ok (.ldc2_w 120, 3) := by decide +kernel
theorem dX7_part_18 : decode cX7_part 18 = .ok (.invokestatic 62, 3) := by decide +kernel
theorem dX7_part_21 : decode cX7_part 21 = .ok (.ifCond .ne 10, 3) := by decide +kernel
theorem dX7_part_24 : decode cX7_part 24 = .ok (.aload_n 0, 1) := by decide +kernel
theorem dX7_part_25 : decode cX7_part 25 = .ok (.bipush (-2), 2) := by decide +kernel
theorem dX7_part_27 : decode cX7_part 27 = .ok (.invokevirtual 89, 3) := by decide +kernel
theorem dX7_part_30 : decode cX7_part 30 = .ok (.ireturn, 1) := by decide +kernel
theorem dX7_part_31 : decode cX7_part 31 = .ok (.aload_n 0, 1) := by decide +kernel
theorem dX7_part_32 : decode cX7_part 32 = .ok (.getfield 80, 3) := by decide +kernel
theorem dX7_part_35 : decode cX7_part 35 = .ok (.iconst 5, 1) := by decide +kernel
theorem dX7_part_36 : decode cX7_part 36 = .ok (.if_icmp .ne 10, 3) := by decide +kernel
theorem dX7_part_39 : decode cX7_part 39 = .ok (.aload_n 0, 1) := by decide +kernel
theorem dX7_part_40 : decode cX7_part 40 = .ok (.bipush (-6), 2) := by decide +kernel
theorem dX7_part_42 : decode cX7_part 42 = .ok (.invokevirtual 89, 3) := by decide +kernel
theorem dX7_part_45 : decode cX7_part 45 = .ok (.ireturn, 1) := by decide +kernel
theorem dX7_part_46 : decode cX7_part 46 = .ok (.aload_n 0, 1) := by decide +kernel
theorem dX7_part_47 : decode cX7_part 47 = .ok (.getfield 48, 3) := by decide +kernel
theorem dX7_part_50 : decode cX7_part 50 = .ok (.aload_n 0, 1) := by decide +kernel
theorem dX7_part_51 : decode cX7_part 51 = .ok (.getfield 80, 3) := by decide +kernel
theorem dX7_part_54 : decode cX7_part 54 = .ok (.aaload, 1) := by decide +kernel
theorem dX7_part_55 : decode cX7_part 55 = .ok (.iconst 0, 1) := by decide +kernel
theorem dX7_part_56 : decode cX7_part 56 = .ok (.iload_n 1, 1) := by decide +kernel
theorem dX7_part_57 : decode cX7_part 57 = .ok (.iastore, 1) := by decide +kernel
theorem dX7_part_58 : decode cX7_part 58 = .ok (.aload_n 0, 1) := by decide +kernel
theorem dX7_part_59 : decode cX7_part 59 = .ok (.getfield 48, 3) := by decide +kernel
theorem dX7_part_62 : decode cX7_part 62 = .ok (.aload_n 0, 1) := by decide +kernel
theorem dX7_part_63 : decode cX7_part 63 = .ok (.getfield 80, 3) := by decide +kernel
theorem dX7_part_66 : decode cX7_part 66 = .ok (.aaload, 1) := by decide +kernel
theorem dX7_part_67 : decode cX7_part 67 = .ok (.iconst 1, 1) := by decide +kernel
theorem dX7_part_68 : decode cX7_part 68 = .ok (.iload_n 2, 1) := by decide +kernel
theorem dX7_part_69 : decode cX7_part 69 = .ok (.iastore, 1) := by decide +kernel
theorem dX7_part_70 : decode cX7_part 70 = .ok (.aload_n 0, 1) := by decide +kernel
theorem dX7_part_71 : decode cX7_part 71 = .ok (.dup, 1) := by decide +kernel
theorem dX7_part_72 : decode cX7_part 72 = .ok (.getfield 80, 3) := by decide +kernel
theorem dX7_part_75 : decode cX7_part 75 = .ok (.dup_x1, 1) := by decide +kernel
theorem dX7_part_76 : decode cX7_part 76 = .ok (.iconst 1, 1) := by decide +kernel
theorem dX7_part_77 : decode cX7_part 77 = .ok (.iadd, 1) := by decide +kernel
theorem dX7_part_78 : decode cX7_part 78 = .ok (.putfield 80, 3) := by decide +kernel
theorem dX7_part_81 : decode cX7_part 81 = .ok (.ireturn, 1) := by decide +kernel
theorem dX7_prop_0 : decode cX7_prop 0 = .ok (.aload_n 0, 1) := by decide +kernel
theorem dX7_prop_1 : decode cX7_prop 1 = .ok (.iload_n 1, 1) := by decide +kernel
theorem dX7_prop_2 : decode cX7_prop 2 = .ok (.invokevirtual 97, 3) := by decide +kernel
theorem dX7_prop_5 : decode cX7_prop 5 = .ok (.ifCond .eq 27, 3) := by decide +kernel
theorem dX7_prop_8 : decode cX7_prop 8 = .ok (.iload_n 2, 1) := by decide +kernel
theorem dX7_prop_9 : decode cX7_prop 9 = .ok (.i2l, 1) := by decide +kernel
theorem dX7_prop_10 : decode cX7_prop 10 = .ok (.lconst 0, 1) := by decide +kernel
theorem dX7_prop_11 : decode cX7_prop 11 = .ok (.ldc2_w 129, 3) := by decide +kernel
theorem dX7_prop_14 : decode cX7_prop 14 = .ok (.invokestatic 62, 3) := by decide +kernel
theorem dX7_prop_17 : decode cX7_prop 17 = .ok (.ifCond .eq 15, 3) := by decide +kernel
theorem dX7_prop_20 : decode cX7_prop 20 = .ok (.iload_n 3, 1) := by decide +kernel
theorem dX7_prop_21 : decode cX7_prop 21 = .ok (.i2l, 1) := by decide +kernel
theorem dX7_prop_22 : decode cX7_prop 22 = .ok (.lconst 0, 1) := by decide +kernel
theorem dX7_prop_23 : decode cX7_prop 23 = .ok (.ldc2_w 129, 3) := by decide +kernel
theorem dX7_prop_26 : decode cX7_prop 26 = .ok (.invokestatic 62, 3) := by decide +kernel
theorem dX7_prop_29 : decode cX7_prop 29 = .ok (.ifCond .ne 10, 3) := by decide +kernel
theorem dX7_prop_32 : decode cX7_prop 32 = .ok (.aload_n 0, 1) := by decide +kernel
theorem dX7_prop_33 : decode cX7_prop 33 = .ok (.bipush (-2), 2) := by decide +kernel
theorem dX7_prop_35 : decode cX7_prop 35 = .ok (.invokevirtual 89, 3) := by decide +kernel
theorem dX7_prop_38 : decode cX7_prop 38 = .ok (.ireturn, 1) := by decide +kernel
theorem dX7_prop_39 : decode cX7_prop 39 = .ok (.aload_n 0, 1) := by decide +kernel
theorem dX7_prop_40 : decode cX7_prop 40 = .ok (.getfield 42, 3) := by decide +kernel
theorem dX7_prop_43 : decode cX7_prop 43 = .ok (.iload_n 1, 1) := by decide +kernel
theorem dX7_prop_44 : decode cX7_prop 44 = .ok (.aaload, 1) := by decide +kernel
theorem dX7_prop_45 : decode cX7_prop 45 = .ok (.iconst 5, 1) := by decide +kernel
theorem dX7_prop_46 : decode cX7_prop 46 = .ok (.iload_n 2, 1) := by decide +kernel
theorem dX7_prop_47 : decode cX7_prop 47 = .ok (.iastore, 1) := by decide +kernel
theorem dX7_prop_48 : decode cX7_prop 48 = .ok (.aload_n 0, 1) := by decide +kernel
theorem dX7_prop_49 : decode cX7_prop 49 = .ok (.getfield 42, 3) := by decide +kernel
theorem dX7_prop_52 : decode cX7_prop 52 = .ok (.iload_n 1, 1) := by decide +kernel
theorem dX7_prop_53 : decode cX7_prop 53 = .ok (.aaload, 1) := by decide +kernel
theorem dX7_prop_54 : decode cX7_prop 54 = .ok (.bipush 6, 2) := by decide +kernel
theorem dX7_prop_56 : decode cX7_prop 56 = .ok (.iload_n 3, 1) := by decide +kernel
theorem dX7_prop_57 : decode cX7_prop 57 = .ok (.iastore, 1) := by decide +kernel
theorem dX7_prop_58 : decode cX7_prop 58 = .ok (.iconst 1, 1) := by decide +kernel
theorem dX7_prop_59 : decode cX7_prop 59 = .ok (.ireturn, 1) := by decide +kernel
theorem dX7_road_0 : decode cX7_road 0 = .ok (.iload_n 1, 1) := by decide +kernel
theorem dX7_road_1 : decode cX7_road 1 = .ok (.invokestatic 113, 3) := by decide +kernel
theorem dX7_road_4 : decode cX7_road 4 = .ok (.ifCond .eq 44, 3) := by decide +kernel
theorem dX7_road_7 : decode cX7_road 7 = .ok (.iload_n 2, 1) := by decide +kernel
theorem dX7_road_8 : decode cX7_road 8 = .ok (.invokestatic 113, 3) := by decide +kernel
theorem dX7_road_11 : decode cX7_road 11 = .ok (.ifCond .eq 37, 3) := by decide +kernel
theorem dX7_road_14 : decode cX7_road 14 = .ok (.iload_n 1, 1) := by decide +kernel
theorem dX7_road_15 : decode cX7_road 15 = .ok (.iload_n 2, 1) := by decide +kernel
theorem dX7_road_16 : decode cX7_road 16 = .ok (.if_icmp .eq 32, 3) := by decide +kernel
theorem dX7_road_19 : decode cX7_road 19 = .ok (.iload_n 3, 1) := by decide +kernel
theorem dX7_road_20 : decode cX7_road 20 = .ok (.i2l, 1) := by decide +kernel
theorem dX7_road_21 : decode cX7_road 21 = .ok (.lconst 1, 1) := by decide +kernel
theorem dX7_road_22 : decode cX7_road 22 = .ok (.ldc2_w 116, 3) := by decide +kernel
theorem dX7_road_25 : decode cX7_road 25 = .ok (.invokestatic 62, 3) := by decide +kernel
theorem dX7_road_28 : decode cX7_road 28 = .ok (.ifCond .eq 20, 3) := by decide +kernel
theorem dX7_road_31 : decode cX7_road 31 = .ok (.iload 4, 2) := by decide +kernel
theorem dX7_road_33 : decode cX7_road 33 = .ok (.i2l, 1) := by decide +kernel
theorem dX7_road_34 : decode cX7_road 34 = .ok (.lconst 0, 1) := by decide +kernel
theorem dX7_road_35 : decode cX7_road 35 = .ok (.ldc2_w 118, 3) := by decide +kernel
theorem dX7_road_38 : decode cX7_road 38 = .ok (.invokestatic 62, 3) := by decide +kernel
theorem dX7_road_41 : decode cX7_road 41 = .ok (.ifCond .eq 7, 3) := by decide +kernel
theorem dX7_road_44 : decode cX7_road 44 = .ok (.iconst 1, 1) := by decide +kernel
theorem dX7_road_45 : decode cX7_road 45 = .ok (.goto 4, 3) := by decide +kernel
theorem dX7_road_48 : decode cX7_road 48 = .ok (.iconst 0, 1) := by decide +kernel
theorem dX7_road_49 : decode cX7_road 49 = .ok (.istore 7, 2) := by decide +kernel
theorem dX7_road_51 : decode cX7_road 51 = .ok (.iload 7, 2) := by decide +kernel
theorem dX7_road_53 : decode cX7_road 53 = .ok (.ifCond .eq 29, 3) := by decide +kernel
theorem dX7_road_56 : decode cX7_road 56 = .ok (.iload 5, 2) := by decide +kernel
theorem dX7_road_58 : decode cX7_road 58 = .ok (.i2l, 1) := by decide +kernel
theorem dX7_road_59 : decode cX7_road 59 = .ok (.lconst 1, 1) := by decide +kernel
theorem dX7_road_60 : decode cX7_road 60 = .ok (.ldc2_w 120, 3) := by decide +kernel
theorem dX7_road_63 : decode cX7_road 63 = .ok (.invokestatic 62, 3) := by decide +kernel
theorem dX7_road_66 : decode cX7_road 66 = .ok (.ifCond .eq 16, 3) := by decide +kernel
theorem dX7_road_69 : decode cX7_road 69 = .ok (.iload 6, 2) := by decide +kernel
theorem dX7_road_71 : decode cX7_road 71 = .ok (.i2l, 1) := by decide +kernel
theorem dX7_road_72 : decode cX7_road 72 = .ok (.lconst 0, 1) := by decide +kernel
theorem dX7_road_73 : decode cX7_road 73 = .ok (.ldc2_w 60, 3) := by decide +kernel
theorem dX7_road_76 : decode cX7_road 76 = .ok (.invokestatic 62, 3) := by decide +kernel
theorem dX7_road_79 : decode cX7_road 79 = .ok (.ifCond .ne 10, 3) := by decide +kernel
theorem dX7_road_82 : decode cX7_road 82 = .ok (.aload_n 0, 1) := by decide +kernel
theorem dX7_road_83 : decode cX7_road 83 = .ok (.bipush (-2), 2) := by decide +kernel
theorem dX7_road_85 : decode cX7_road 85 = .ok (.invokevirtual 89, 3) := by decide +kernel
theorem dX7_road_88 : decode cX7_road 88 = .ok (.ireturn, 1) := by decide +kernel
theorem dX7_road_89 : decode cX7_road 89 = .ok (.aload_n 0, 1) := by decide +kernel
theorem dX7_road_90 : decode cX7_road 90 = .ok (.getfield 66, 3) := by decide +kernel
theorem dX7_road_93 : decode cX7_road 93 = .ok (.bipush 24, 2) := by decide +kernel
theorem dX7_road_95 : decode cX7_road 95 = .ok (.if_icmp .ne 10, 3) := by decide +kernel
theorem dX7_road_98 : decode cX7_road 98 = .ok (.aload_n 0, 1) := by decide +kernel
theorem dX7_road_99 : decode cX7_road 99 = .ok (.bipush (-6), 2) := by decide +kernel
theorem dX7_road_101 : decode cX7_road 101 = .ok (.invokevirtual 89, 3) := by decide +kernel
theorem dX7_road_104 : decode cX7_road 104 = .ok (.ireturn, 1) := by decide +kernel
theorem dX7_road_105 : decode cX7_road 105 = .ok (.aload_n 0, 1) := by decide +kernel
theorem dX7_road_106 : decode cX7_road 106 = .ok (.iload_n 1, 1) := by decide +kernel
theorem dX7_road_107 : decode cX7_road 107 = .ok (.iload_n 2, 1) := by decide +kernel
theorem dX7_road_108 : decode cX7_road 108 = .ok (.invokevirtual 122, 3) := by decide +kernel
theorem dX7_road_111 : decode cX7_road 111 = .ok (.aload_n 0, 1) := by decide +kernel
theorem dX7_road_112 : decode cX7_road 112 = .ok (.getfield 39, 3) := by decide +kernel
theorem dX7_road_115 : decode cX7_road 115 = .ok (.aload_n 0, 1) := by decide +kernel
theorem dX7_road_116 : decode cX7_road 116 = .ok (.getfield 66, 3) := by decide +kernel
theorem dX7_road_119 : decode cX7_road 119 = .ok (.aaload, 1) := by decide +kernel
theorem dX7_road_120 : decode cX7_road 120 = .ok (.iconst 2, 1) := by decide +kernel
theorem dX7_road_121 : decode cX7_road 121 = .ok (.iload_n 3, 1) := by decide +kernel
theorem dX7_road_122 : decode cX7_road 122 = .ok (.iastore, 1) := by decide +kernel
theorem dX7_road_123 : decode cX7_road 123 = .ok (.aload_n 0, 1) := by decide +kernel
theorem dX7_road_124 : decode cX7_road 124 = .ok (.getfield 39, 3) := by decide +kernel
theorem dX7_road_127 : decode cX7_road 127 = .ok (.aload_n 0, 1) := by decide +kernel
theorem dX7_road_128 : decode cX7_road 128 = .ok (.getfield 66, 3) := by decide +kernel
theorem dX7_road_131 : decode cX7_road 131 = .ok (.aaload, 1) := by decide +kernel
theorem dX7_road_132 : decode cX7_road 132 = .ok (.iconst 3, 1) := by decide +kernel
theorem dX7_road_133 : decode cX7_road 133 = .ok (.iload 4, 2) := by decide +kernel
theorem dX7_road_135 : decode cX7_road 135 = .ok (.iastore, 1) := by decide +kernel
theorem dX7_road_136 : decode cX7_road 136 = .ok (.aload_n 0, 1) := by decide +kernel
theorem dX7_road_137 : decode cX7_road 137 = .ok (.getfield 39, 3) := by decide +kernel
theorem dX7_road_140 : decode cX7_road 140 = .ok (.aload_n 0, 1) := by decide +kernel
theorem dX7_road_141 : decode cX7_road 141 = .ok (.getfield 66, 3) := by decide +kernel
theorem dX7_road_144 : decode cX7_road 144 = .ok (.aaload, 1) := by decide +kernel
theorem dX7_road_145 : decode cX7_road 145 = .ok (.iconst 4, 1) := by decide +kernel
theorem dX7_road_146 : decode cX7_road 146 = .ok (.iload 5, 2) := by decide +kernel
theorem dX7_road_148 : decode cX7_road 148 = .ok (.iastore, 1) := by decide +kernel
theorem dX7_road_149 : decode cX7_road 149 = .ok (.aload_n 0, 1) := by decide +kernel
theorem dX7_road_150 : decode cX7_road 150 = .ok (.getfield 39, 3) := by decide +kernel
theorem dX7_road_153 : decode cX7_road 153 = .ok (.aload_n 0, 1) := by decide +kernel
theorem dX7_road_154 : decode cX7_road 154 = .ok (.getfield 66, 3) := by decide +kernel
theorem dX7_road_157 : decode cX7_road 157 = .ok (.aaload, 1) := by decide +kernel
theorem dX7_road_158 : decode cX7_road 158 = .ok (.iconst 5, 1) := by decide +kernel
theorem dX7_road_159 : decode cX7_road 159 = .ok (.iload 6, 2) := by decide +kernel
theorem dX7_road_161 : decode cX7_road 161 = .ok (.iastore, 1) := by decide +kernel
theorem dX7_road_162 : decode cX7_road 162 = .ok (.aload_n 0, 1) := by decide +kernel
theorem dX7_road_163 : decode cX7_road 163 = .ok (.dup, 1) := by decide +kernel
theorem dX7_road_164 : decode cX7_road 164 = .ok (.getfield 66, 3) := by decide +kernel
theorem dX7_road_167 : decode cX7_road 167 = .ok (.dup_x1, 1) := by decide +kernel
theorem dX7_road_168 : decode cX7_road 168 = .ok (.iconst 1, 1) := by decide +kernel
theorem dX7_road_169 : decode cX7_road 169 = .ok (.iadd, 1) := by decide +kernel
theorem dX7_road_170 : decode cX7_road 170 = .ok (.putfield 66, 3) := by decide +kernel
theorem dX7_road_173 : decode cX7_road 173 = .ok (.ireturn, 1) := by decide +kernel
theorem dX7_roadOf_0 : decode cX7_roadOf 0 = .ok (.aload_n 0, 1) := by decide +kernel
theorem dX7_roadOf_1 : decode cX7_roadOf 1 = .ok (.iload_n 1, 1) := by decide +kernel
theorem dX7_roadOf_2 : decode cX7_roadOf 2 = .ok (.invokevirtual 126, 3) := by decide +kernel
theorem dX7_roadOf_5 : decode cX7_roadOf 5 = .ok (.ifCond .eq 26, 3) := by decide +kernel
theorem dX7_roadOf_8 : decode cX7_roadOf 8 = .ok (.iload_n 2, 1) := by decide +kernel
theorem dX7_roadOf_9 : decode cX7_roadOf 9 = .ok (.i2l, 1) := by decide +kernel
theorem dX7_roadOf_10 : decode cX7_roadOf 10 = .ok (.lconst 0, 1) := by decide +kernel
theorem dX7_roadOf_11 : decode cX7_roadOf 11 = .ok (.ldc2_w 249, 3) := by decide +kernel
theorem dX7_roadOf_14 : decode cX7_roadOf 14 = .ok (.invokestatic 62, 3) := by decide +kernel
theorem dX7_roadOf_17 : decode cX7_roadOf 17 = .ok (.ifCond .eq 14, 3) := by decide +kernel
theorem dX7_roadOf_20 : decode cX7_roadOf 20 = .ok (.aload_n 0, 1) := by decide +kernel
theorem dX7_roadOf_21 : decode cX7_roadOf 21 = .ok (.getfield 39, 3) := by decide +kernel
theorem dX7_roadOf_24 : decode cX7_roadOf 24 = .ok (.iload_n 1, 1) := by decide +kernel
theorem dX7_roadOf_25 : decode cX7_roadOf 25 = .ok (.aaload, 1) := by decide +kernel
theorem dX7_roadOf_26 : decode cX7_roadOf 26 = .ok (.iload_n 2, 1) := by decide +kernel
theorem dX7_roadOf_27 : decode cX7_roadOf 27 = .ok (.iaload, 1) := by decide +kernel
theorem dX7_roadOf_28 : decode cX7_roadOf 28 = .ok (.goto 9, 3) := by decide +kernel
theorem dX7_roadOf_31 : decode cX7_roadOf 31 = .ok (.aload_n 0, 1) := by decide +kernel
theorem dX7_roadOf_32 : decode cX7_roadOf 32 = .ok (.bipush (-2), 2) := by decide +kernel
theorem dX7_roadOf_34 : decode cX7_roadOf 34 = .ok (.invokevirtual 89, 3) := by decide +kernel
theorem dX7_roadOf_37 : decode cX7_roadOf 37 = .ok (.ireturn, 1) := by decide +kernel
theorem dX7_row_0 : decode cX7_row 0 = .ok (.iload_n 1, 1) := by decide +kernel
theorem dX7_row_1 : decode cX7_row 1 = .ok (.i2l, 1) := by decide +kernel
theorem dX7_row_2 : decode cX7_row 2 = .ok (.lconst 0, 1) := by decide +kernel
theorem dX7_row_3 : decode cX7_row 3 = .ok (.ldc2_w 83, 3) := by decide +kernel
theorem dX7_row_6 : decode cX7_row 6 = .ok (.invokestatic 62, 3) := by decide +kernel
theorem dX7_row_9 : decode cX7_row 9 = .ok (.ifCond .eq 27, 3) := by decide +kernel
theorem dX7_row_12 : decode cX7_row 12 = .ok (.iload_n 2, 1) := by decide +kernel
theorem dX7_row_13 : decode cX7_row 13 = .ok (.i2l, 1) := by decide +kernel
theorem dX7_row_14 : decode cX7_row 14 = .ok (.lconst 0, 1) := by decide +kernel
theorem dX7_row_15 : decode cX7_row 15 = .ok (.ldc2_w 85, 3) := by decide +kernel
theorem dX7_row_18 : decode cX7_row 18 = .ok (.invokestatic 62, 3) := by decide +kernel
theorem dX7_row_21 : decode cX7_row 21 = .ok (.ifCond .eq 15, 3) := by decide +kernel
theorem dX7_row_24 : decode cX7_row 24 = .ok (.iload_n 3, 1) := by decide +kernel
theorem dX7_row_25 : decode cX7_row 25 = .ok (.i2l, 1) := by decide +kernel
theorem dX7_row_26 : decode cX7_row 26 = .ok (.lconst 0, 1) := by decide +kernel
theorem dX7_row_27 : decode cX7_row 27 = .ok (.ldc2_w 87, 3) := by decide +kernel
theorem dX7_row_30 : decode cX7_row 30 = .ok (.invokestatic 62, 3) := by decide +kernel
theorem dX7_row_33 : decode cX7_row 33 = .ok (.ifCond .ne 10, 3) := by decide +kernel
theorem dX7_row_36 : decode cX7_row 36 = .ok (.aload_n 0, 1) := by decide +kernel
theorem dX7_row_37 : decode cX7_row 37 = .ok (.bipush (-2), 2) := by decide +kernel
theorem dX7_row_39 : decode cX7_row 39 = .ok (.invokevirtual 89, 3) := by decide +kernel
theorem dX7_row_42 : decode cX7_row 42 = .ok (.ireturn, 1) := by decide +kernel
theorem dX7_row_43 : decode cX7_row 43 = .ok (.aload_n 0, 1) := by decide +kernel
theorem dX7_row_44 : decode cX7_row 44 = .ok (.getfield 7, 3) := by decide +kernel
theorem dX7_row_47 : decode cX7_row 47 = .ok (.iload_n 1, 1) := by decide +kernel
theorem dX7_row_48 : decode cX7_row 48 = .ok (.iconst 1, 1) := by decide +kernel
theorem dX7_row_49 : decode cX7_row 49 = .ok (.iastore, 1) := by decide +kernel
theorem dX7_row_50 : decode cX7_row 50 = .ok (.aload_n 0, 1) := by decide +kernel
theorem dX7_row_51 : decode cX7_row 51 = .ok (.getfield 13, 3) := by decide +kernel
theorem dX7_row_54 : decode cX7_row 54 = .ok (.iload_n 1, 1) := by decide +kernel
theorem dX7_row_55 : decode cX7_row 55 = .ok (.iload_n 2, 1) := by decide +kernel
theorem dX7_row_56 : decode cX7_row 56 = .ok (.iastore, 1) := by decide +kernel
theorem dX7_row_57 : decode cX7_row 57 = .ok (.aload_n 0, 1) := by decide +kernel
theorem dX7_row_58 : decode cX7_row 58 = .ok (.getfield 16, 3) := by decide +kernel
theorem dX7_row_61 : decode cX7_row 61 = .ok (.iload_n 1, 1) := by decide +kernel
theorem dX7_row_62 : decode cX7_row 62 = .ok (.iload_n 3, 1) := by decide +kernel
theorem dX7_row_63 : decode cX7_row 63 = .ok (.iastore, 1) := by decide +kernel
theorem dX7_row_64 : decode cX7_row 64 = .ok (.iconst 0, 1) := by decide +kernel
theorem dX7_row_65 : decode cX7_row 65 = .ok (.istore 4, 2) := by decide +kernel
theorem dX7_row_67 : decode cX7_row 67 = .ok (.iload 4, 2) := by decide +kernel
theorem dX7_row_69 : decode cX7_row 69 = .ok (.bipush 40, 2) := by decide +kernel
theorem dX7_row_71 : decode cX7_row 71 = .ok (.if_icmp .ge 19, 3) := by decide +kernel
theorem dX7_row_74 : decode cX7_row 74 = .ok (.aload_n 0, 1) := by decide +kernel
theorem dX7_row_75 : decode cX7_row 75 = .ok (.getfield 21, 3) := by decide +kernel
theorem dX7_row_78 : decode cX7_row 78 = .ok (.iload_n 1, 1) := by decide +kernel
theorem dX7_row_79 : decode cX7_row 79 = .ok (.aaload, 1) := by decide +kernel
theorem dX7_row_80 : decode cX7_row 80 = .ok (.iload 4, 2) := by decide +kernel
theorem dX7_row_82 : decode cX7_row 82 = .ok (.lconst 0, 1) := by decide +kernel
theorem dX7_row_83 : decode cX7_row 83 = .ok (.lastore, 1) := by decide +kernel
theorem dX7_row_84 : decode cX7_row 84 = .ok (.iinc 4 1, 3) := by decide +kernel
theorem dX7_row_87 : decode cX7_row 87 = .ok (.goto (-20), 3) := by decide +kernel
theorem dX7_row_90 : decode cX7_row 90 = .ok (.iconst 1, 1) := by decide +kernel
theorem dX7_row_91 : decode cX7_row 91 = .ok (.ireturn, 1) := by decide +kernel
theorem dX7_says_0 : decode cX7_says 0 = .ok (.iload_n 1, 1) := by decide +kernel
theorem dX7_says_1 : decode cX7_says 1 = .ok (.i2l, 1) := by decide +kernel
theorem dX7_says_2 : decode cX7_says 2 = .ok (.lconst 0, 1) := by decide +kernel
theorem dX7_says_3 : decode cX7_says 3 = .ok (.ldc2_w 83, 3) := by decide +kernel
theorem dX7_says_6 : decode cX7_says 6 = .ok (.invokestatic 62, 3) := by decide +kernel
theorem dX7_says_9 : decode cX7_says 9 = .ok (.ifCond .eq 15, 3) := by decide +kernel
theorem dX7_says_12 : decode cX7_says 12 = .ok (.iload_n 2, 1) := by decide +kernel
theorem dX7_says_13 : decode cX7_says 13 = .ok (.i2l, 1) := by decide +kernel
theorem dX7_says_14 : decode cX7_says 14 = .ok (.lconst 0, 1) := by decide +kernel
theorem dX7_says_15 : decode cX7_says 15 = .ok (.ldc2_w 100, 3) := by decide +kernel
theorem dX7_says_18 : decode cX7_says 18 = .ok (.invokestatic 62, 3) := by decide +kernel
theorem dX7_says_21 : decode cX7_says 21 = .ok (.ifCond .ne 10, 3) := by decide +kernel
theorem dX7_says_24 : decode cX7_says 24 = .ok (.aload_n 0, 1) := by decide +kernel
theorem dX7_says_25 : decode cX7_says 25 = .ok (.bipush (-2), 2) := by decide +kernel
theorem dX7_says_27 : decode cX7_says 27 = .ok (.invokevirtual 89, 3) := by decide +kernel
theorem dX7_says_30 : decode cX7_says 30 = .ok (.ireturn, 1) := by decide +kernel
theorem dX7_says_31 : decode cX7_says 31 = .ok (.aload_n 0, 1) := by decide +kernel
theorem dX7_says_32 : decode cX7_says 32 = .ok (.getfield 7, 3) := by decide +kernel
theorem dX7_says_35 : decode cX7_says 35 = .ok (.iload_n 1, 1) := by decide +kernel
theorem dX7_says_36 : decode cX7_says 36 = .ok (.iaload, 1) := by decide +kernel
theorem dX7_says_37 : decode cX7_says 37 = .ok (.iconst 1, 1) := by decide +kernel
theorem dX7_says_38 : decode cX7_says 38 = .ok (.if_icmp .eq 33, 3) := by decide +kernel
theorem dX7_says_41 : decode cX7_says 41 = .ok (.aload_n 0, 1) := by decide +kernel
theorem dX7_says_42 : decode cX7_says 42 = .ok (.getfield 7, 3) := by decide +kernel
theorem dX7_says_45 : decode cX7_says 45 = .ok (.iload_n 1, 1) := by decide +kernel
theorem dX7_says_46 : decode cX7_says 46 = .ok (.iaload, 1) := by decide +kernel
theorem dX7_says_47 : decode cX7_says 47 = .ok (.iconst 2, 1) := by decide +kernel
theorem dX7_says_48 : decode cX7_says 48 = .ok (.if_icmp .ne 30, 3) := by decide +kernel
theorem dX7_says_51 : decode cX7_says 51 = .ok (.aload_n 0, 1) := by decide +kernel
theorem dX7_says_52 : decode cX7_says 52 = .ok (.getfield 42, 3) := by decide +kernel
theorem dX7_says_55 : decode cX7_says 55 = .ok (.aload_n 0, 1) := by decide +kernel
theorem dX7_says_56 : decode cX7_says 56 = .ok (.getfield 28, 3) := by decide +kernel
theorem dX7_says_59 : decode cX7_says 59 = .ok (.iload_n 1, 1) := by decide +kernel
theorem dX7_says_60 : decode cX7_says 60 = .ok (.iaload, 1) := by decide +kernel
theorem dX7_says_61 : decode cX7_says 61 = .ok (.aaload, 1) := by decide +kernel
theorem dX7_says_62 : decode cX7_says 62 = .ok (.iconst 1, 1) := by decide +kernel
theorem dX7_says_63 : decode cX7_says 63 = .ok (.iaload, 1) := by decide +kernel
theorem dX7_says_64 : decode cX7_says 64 = .ok (.iload_n 2, 1) := by decide +kernel
theorem dX7_says_65 : decode cX7_says 65 = .ok (.invokestatic 102, 3) := by decide +kernel
theorem dX7_says_68 : decode cX7_says 68 = .ok (.ifCond .ne 10, 3) := by decide +kernel
theorem dX7_says_71 : decode cX7_says 71 = .ok (.aload_n 0, 1) := by decide +kernel
theorem dX7_says_72 : decode cX7_says 72 = .ok (.bipush (-3), 2) := by decide +kernel
theorem dX7_says_74 : decode cX7_says 74 = .ok (.invokevirtual 89, 3) := by decide +kernel
theorem dX7_says_77 : decode cX7_says 77 = .ok (.ireturn, 1) := by decide +kernel
theorem dX7_says_78 : decode cX7_says 78 = .ok (.aload_n 0, 1) := by decide +kernel
theorem dX7_says_79 : decode cX7_says 79 = .ok (.getfield 7, 3) := by decide +kernel
theorem dX7_says_82 : decode cX7_says 82 = .ok (.iload_n 1, 1) := by decide +kernel
theorem dX7_says_83 : decode cX7_says 83 = .ok (.iaload, 1) := by decide +kernel
theorem dX7_says_84 : decode cX7_says 84 = .ok (.ifCond .ne 10, 3) := by decide +kernel
theorem dX7_says_87 : decode cX7_says 87 = .ok (.aload_n 0, 1) := by decide +kernel
theorem dX7_says_88 : decode cX7_says 88 = .ok (.bipush (-4), 2) := by decide +kernel
theorem dX7_says_90 : decode cX7_says 90 = .ok (.invokevirtual 89, 3) := by decide +kernel
theorem dX7_says_93 : decode cX7_says 93 = .ok (.ireturn, 1) := by decide +kernel
theorem dX7_says_94 : decode cX7_says 94 = .ok (.aload_n 0, 1) := by decide +kernel
theorem dX7_says_95 : decode cX7_says 95 = .ok (.getfield 28, 3) := by decide +kernel
theorem dX7_says_98 : decode cX7_says 98 = .ok (.iload_n 1, 1) := by decide +kernel
theorem dX7_says_99 : decode cX7_says 99 = .ok (.iaload, 1) := by decide +kernel
theorem dX7_says_100 : decode cX7_says 100 = .ok (.istore_n 3, 1) := by decide +kernel
theorem dX7_says_101 : decode cX7_says 101 = .ok (.iload_n 2, 1) := by decide +kernel
theorem dX7_says_102 : decode cX7_says 102 = .ok (.tableswitch 68 0 4 #[34, 43, 43, 49, 58], 34) := by decide +kernel
theorem dX7_says_136 : decode cX7_says 136 = .ok (.aload_n 0, 1) := by decide +kernel
theorem dX7_says_137 : decode cX7_says 137 = .ok (.getfield 42, 3) := by decide +kernel
theorem dX7_says_140 : decode cX7_says 140 = .ok (.iload_n 3, 1) := by decide +kernel
theorem dX7_says_141 : decode cX7_says 141 = .ok (.aaload, 1) := by decide +kernel
theorem dX7_says_142 : decode cX7_says 142 = .ok (.iconst 0, 1) := by decide +kernel
theorem dX7_says_143 : decode cX7_says 143 = .ok (.iaload, 1) := by decide +kernel
theorem dX7_says_144 : decode cX7_says 144 = .ok (.ireturn, 1) := by decide +kernel
theorem dX7_says_145 : decode cX7_says 145 = .ok (.aload_n 0, 1) := by decide +kernel
theorem dX7_says_146 : decode cX7_says 146 = .ok (.iload_n 3, 1) := by decide +kernel
theorem dX7_says_147 : decode cX7_says 147 = .ok (.invokevirtual 106, 3) := by decide +kernel
theorem dX7_says_150 : decode cX7_says 150 = .ok (.ireturn, 1) := by decide +kernel
theorem dX7_says_151 : decode cX7_says 151 = .ok (.aload_n 0, 1) := by decide +kernel
theorem dX7_says_152 : decode cX7_says 152 = .ok (.getfield 42, 3) := by decide +kernel
theorem dX7_says_155 : decode cX7_says 155 = .ok (.iload_n 3, 1) := by decide +kernel
theorem dX7_says_156 : decode cX7_says 156 = .ok (.aaload, 1) := by decide +kernel
theorem dX7_says_157 : decode cX7_says 157 = .ok (.iconst 2, 1) := by decide +kernel
theorem dX7_says_158 : decode cX7_says 158 = .ok (.iaload, 1) := by decide +kernel
theorem dX7_says_159 : decode cX7_says 159 = .ok (.ireturn, 1) := by decide +kernel
theorem dX7_says_160 : decode cX7_says 160 = .ok (.aload_n 0, 1) := by decide +kernel
theorem dX7_says_161 : decode cX7_says 161 = .ok (.getfield 42, 3) := by decide +kernel
theorem dX7_says_164 : decode cX7_says 164 = .ok (.iload_n 3, 1) := by decide +kernel
theorem dX7_says_165 : decode cX7_says 165 = .ok (.aaload, 1) := by decide +kernel
theorem dX7_says_166 : decode cX7_says 166 = .ok (.bipush 9, 2) := by decide +kernel
theorem dX7_says_168 : decode cX7_says 168 = .ok (.iaload, 1) := by decide +kernel
theorem dX7_says_169 : decode cX7_says 169 = .ok (.ireturn, 1) := by decide +kernel
theorem dX7_says_170 : decode cX7_says 170 = .ok (.aload_n 0, 1) := by decide +kernel
theorem dX7_says_171 : decode cX7_says 171 = .ok (.iload_n 3, 1) := by decide +kernel
theorem dX7_says_172 : decode cX7_says 172 = .ok (.aload_n 0, 1) := by decide +kernel
theorem dX7_says_173 : decode cX7_says 173 = .ok (.getfield 42, 3) := by decide +kernel
theorem dX7_says_176 : decode cX7_says 176 = .ok (.iload_n 3, 1) := by decide +kernel
theorem dX7_says_177 : decode cX7_says 177 = .ok (.aaload, 1) := by decide +kernel
theorem dX7_says_178 : decode cX7_says 178 = .ok (.bipush 7, 2) := by decide +kernel
theorem dX7_says_180 : decode cX7_says 180 = .ok (.iaload, 1) := by decide +kernel
theorem dX7_says_181 : decode cX7_says 181 = .ok (.iconst 1, 1) := by decide +kernel
theorem dX7_says_182 : decode cX7_says 182 = .ok (.if_icmp .ne 7, 3) := by decide +kernel
theorem dX7_says_185 : decode cX7_says 185 = .ok (.iconst 1, 1) := by decide +kernel
theorem dX7_says_186 : decode cX7_says 186 = .ok (.goto 4, 3) := by decide +kernel
theorem dX7_says_189 : decode cX7_says 189 = .ok (.iconst 0, 1) := by decide +kernel
theorem dX7_says_190 : decode cX7_says 190 = .ok (.invokevirtual 109, 3) := by decide +kernel
theorem dX7_says_193 : decode cX7_says 193 = .ok (.ireturn, 1) := by decide +kernel
theorem dX7_set_0 : decode cX7_set 0 = .ok (.iload_n 1, 1) := by decide +kernel
theorem dX7_set_1 : decode cX7_set 1 = .ok (.i2l, 1) := by decide +kernel
theorem dX7_set_2 : decode cX7_set 2 = .ok (.lconst 0, 1) := by decide +kernel
theorem dX7_set_3 : decode cX7_set 3 = .ok (.ldc2_w 83, 3) := by decide +kernel
theorem dX7_set_6 : decode cX7_set 6 = .ok (.invokestatic 62, 3) := by decide +kernel
theorem dX7_set_9 : decode cX7_set 9 = .ok (.ifCond .ne 10, 3) := by decide +kernel
theorem dX7_set_12 : decode cX7_set 12 = .ok (.aload_n 0, 1) := by decide +kernel
theorem dX7_set_13 : decode cX7_set 13 = .ok (.bipush (-2), 2) := by decide +kernel
theorem dX7_set_15 : decode cX7_set 15 = .ok (.invokevirtual 89, 3) := by decide +kernel
theorem dX7_set_18 : decode cX7_set 18 = .ok (.ireturn, 1) := by decide +kernel
theorem dX7_set_19 : decode cX7_set 19 = .ok (.aload_n 0, 1) := by decide +kernel
theorem dX7_set_20 : decode cX7_set 20 = .ok (.getfield 7, 3) := by decide +kernel
theorem dX7_set_23 : decode cX7_set 23 = .ok (.iload_n 1, 1) := by decide +kernel
theorem dX7_set_24 : decode cX7_set 24 = .ok (.iaload, 1) := by decide +kernel
theorem dX7_set_25 : decode cX7_set 25 = .ok (.iconst 2, 1) := by decide +kernel
theorem dX7_set_26 : decode cX7_set 26 = .ok (.if_icmp .ne 10, 3) := by decide +kernel
theorem dX7_set_29 : decode cX7_set 29 = .ok (.aload_n 0, 1) := by decide +kernel
theorem dX7_set_30 : decode cX7_set 30 = .ok (.bipush (-3), 2) := by decide +kernel
theorem dX7_set_32 : decode cX7_set 32 = .ok (.invokevirtual 89, 3) := by decide +kernel
theorem dX7_set_35 : decode cX7_set 35 = .ok (.ireturn, 1) := by decide +kernel
theorem dX7_set_36 : decode cX7_set 36 = .ok (.aload_n 0, 1) := by decide +kernel
theorem dX7_set_37 : decode cX7_set 37 = .ok (.getfield 7, 3) := by decide +kernel
theorem dX7_set_40 : decode cX7_set 40 = .ok (.iload_n 1, 1) := by decide +kernel
theorem dX7_set_41 : decode cX7_set 41 = .ok (.iaload, 1) := by decide +kernel
theorem dX7_set_42 : decode cX7_set 42 = .ok (.ifCond .ne 10, 3) := by decide +kernel
theorem dX7_set_45 : decode cX7_set 45 = .ok (.aload_n 0, 1) := by decide +kernel
theorem dX7_set_46 : decode cX7_set 46 = .ok (.bipush (-4), 2) := by decide +kernel
theorem dX7_set_48 : decode cX7_set 48 = .ok (.invokevirtual 89, 3) := by decide +kernel
theorem dX7_set_51 : decode cX7_set 51 = .ok (.ireturn, 1) := by decide +kernel
theorem dX7_set_52 : decode cX7_set 52 = .ok (.iload_n 2, 1) := by decide +kernel
theorem dX7_set_53 : decode cX7_set 53 = .ok (.i2l, 1) := by decide +kernel
theorem dX7_set_54 : decode cX7_set 54 = .ok (.lconst 0, 1) := by decide +kernel
theorem dX7_set_55 : decode cX7_set 55 = .ok (.aload_n 0, 1) := by decide +kernel
theorem dX7_set_56 : decode cX7_set 56 = .ok (.getfield 16, 3) := by decide +kernel
theorem dX7_set_59 : decode cX7_set 59 = .ok (.iload_n 1, 1) := by decide +kernel
theorem dX7_set_60 : decode cX7_set 60 = .ok (.iaload, 1) := by decide +kernel
theorem dX7_set_61 : decode cX7_set 61 = .ok (.iconst 1, 1) := by decide +kernel
theorem dX7_set_62 : decode cX7_set 62 = .ok (.isub, 1) := by decide +kernel
theorem dX7_set_63 : decode cX7_set 63 = .ok (.i2l, 1) := by decide +kernel
theorem dX7_set_64 : decode cX7_set 64 = .ok (.invokestatic 62, 3) := by decide +kernel
theorem dX7_set_67 : decode cX7_set 67 = .ok (.ifCond .ne 10, 3) := by decide +kernel
theorem dX7_set_70 : decode cX7_set 70 = .ok (.aload_n 0, 1) := by decide +kernel
theorem dX7_set_71 : decode cX7_set 71 = .ok (.bipush (-2), 2) := by decide +kernel
theorem dX7_set_73 : decode cX7_set 73 = .ok (.invokevirtual 89, 3) := by decide +kernel
theorem dX7_set_76 : decode cX7_set 76 = .ok (.ireturn, 1) := by decide +kernel
theorem dX7_set_77 : decode cX7_set 77 = .ok (.aload_n 0, 1) := by decide +kernel
theorem dX7_set_78 : decode cX7_set 78 = .ok (.getfield 21, 3) := by decide +kernel
theorem dX7_set_81 : decode cX7_set 81 = .ok (.iload_n 1, 1) := by decide +kernel
theorem dX7_set_82 : decode cX7_set 82 = .ok (.aaload, 1) := by decide +kernel
theorem dX7_set_83 : decode cX7_set 83 = .ok (.iload_n 2, 1) := by decide +kernel
theorem dX7_set_84 : decode cX7_set 84 = .ok (.aload_n 0, 1) := by decide +kernel
theorem dX7_set_85 : decode cX7_set 85 = .ok (.getfield 13, 3) := by decide +kernel
theorem dX7_set_88 : decode cX7_set 88 = .ok (.iload_n 1, 1) := by decide +kernel
theorem dX7_set_89 : decode cX7_set 89 = .ok (.iaload, 1) := by decide +kernel
theorem dX7_set_90 : decode cX7_set 90 = .ok (.lload_n 3, 1) := by decide +kernel
theorem dX7_set_91 : decode cX7_set 91 = .ok (.invokestatic 93, 3) := by decide +kernel
theorem dX7_set_94 : decode cX7_set 94 = .ok (.lastore, 1) := by decide +kernel
theorem dX7_set_95 : decode cX7_set 95 = .ok (.iconst 1, 1) := by decide +kernel
theorem dX7_set_96 : decode cX7_set 96 = .ok (.ireturn, 1) := by decide +kernel
theorem dX7_show_0 : decode cX7_show 0 = .ok (.iload_n 1, 1) := by decide +kernel
theorem dX7_show_1 : decode cX7_show 1 = .ok (.i2l, 1) := by decide +kernel
theorem dX7_show_2 : decode cX7_show 2 = .ok (.lconst 0, 1) := by decide +kernel
theorem dX7_show_3 : decode cX7_show 3 = .ok (.ldc2_w 83, 3) := by decide +kernel
theorem dX7_show_6 : decode cX7_show 6 = .ok (.invokestatic 62, 3) := by decide +kernel
theorem dX7_show_9 : decode cX7_show 9 = .ok (.ifCond .eq 16, 3) := by decide +kernel
theorem dX7_show_12 : decode cX7_show 12 = .ok (.iload_n 2, 1) := by decide +kernel
theorem dX7_show_13 : decode cX7_show 13 = .ok (.iconst (-1), 1) := by decide +kernel
theorem dX7_show_14 : decode cX7_show 14 = .ok (.if_icmp .eq 18, 3) := by decide +kernel
theorem dX7_show_17 : decode cX7_show 17 = .ok (.aload_n 0, 1) := by decide +kernel
theorem dX7_show_18 : decode cX7_show 18 = .ok (.iload_n 2, 1) := by decide +kernel
theorem dX7_show_19 : decode cX7_show 19 = .ok (.invokevirtual 97, 3) := by decide +kernel
theorem dX7_show_22 : decode cX7_show 22 = .ok (.ifCond .ne 10, 3) := by decide +kernel
theorem dX7_show_25 : decode cX7_show 25 = .ok (.aload_n 0, 1) := by decide +kernel
theorem dX7_show_26 : decode cX7_show 26 = .ok (.bipush (-2), 2) := by decide +kernel
theorem dX7_show_28 : decode cX7_show 28 = .ok (.invokevirtual 89, 3) := by decide +kernel
theorem dX7_show_31 : decode cX7_show 31 = .ok (.ireturn, 1) := by decide +kernel
theorem dX7_show_32 : decode cX7_show 32 = .ok (.aload_n 0, 1) := by decide +kernel
theorem dX7_show_33 : decode cX7_show 33 = .ok (.getfield 7, 3) := by decide +kernel
theorem dX7_show_36 : decode cX7_show 36 = .ok (.iload_n 1, 1) := by decide +kernel
theorem dX7_show_37 : decode cX7_show 37 = .ok (.iload_n 2, 1) := by decide +kernel
theorem dX7_show_38 : decode cX7_show 38 = .ok (.iconst (-1), 1) := by decide +kernel
theorem dX7_show_39 : decode cX7_show 39 = .ok (.if_icmp .ne 7, 3) := by decide +kernel
theorem dX7_show_42 : decode cX7_show 42 = .ok (.iconst 0, 1) := by decide +kernel
theorem dX7_show_43 : decode cX7_show 43 = .ok (.goto 4, 3) := by decide +kernel
theorem dX7_show_46 : decode cX7_show 46 = .ok (.iconst 2, 1) := by decide +kernel
theorem dX7_show_47 : decode cX7_show 47 = .ok (.iastore, 1) := by decide +kernel
theorem dX7_show_48 : decode cX7_show 48 = .ok (.aload_n 0, 1) := by decide +kernel
theorem dX7_show_49 : decode cX7_show 49 = .ok (.getfield 28, 3) := by decide +kernel
theorem dX7_show_52 : decode cX7_show 52 = .ok (.iload_n 1, 1) := by decide +kernel
theorem dX7_show_53 : decode cX7_show 53 = .ok (.iload_n 2, 1) := by decide +kernel
theorem dX7_show_54 : decode cX7_show 54 = .ok (.iastore, 1) := by decide +kernel
theorem dX7_show_55 : decode cX7_show 55 = .ok (.iconst 1, 1) := by decide +kernel
theorem dX7_show_56 : decode cX7_show 56 = .ok (.ireturn, 1) := by decide +kernel
theorem dX7_shut_0 : decode cX7_shut 0 = .ok (.aload_n 0, 1) := by decide +kernel
theorem dX7_shut_1 : decode cX7_shut 1 = .ok (.iload_n 1, 1) := by decide +kernel
theorem dX7_shut_2 : decode cX7_shut 2 = .ok (.invokevirtual 126, 3) := by decide +kernel
theorem dX7_shut_5 : decode cX7_shut 5 = .ok (.ifCond .ne 10, 3) := by decide +kernel
theorem dX7_shut_8 : decode cX7_shut 8 = .ok (.aload_n 0, 1) := by decide +kernel
theorem dX7_shut_9 : decode cX7_shut 9 = .ok (.bipush (-2), 2) := by decide +kernel
theorem dX7_shut_11 : decode cX7_shut 11 = .ok (.invokevirtual 89, 3) := by decide +kernel
theorem dX7_shut_14 : decode cX7_shut 14 = .ok (.ireturn, 1) := by decide +kernel
theorem dX7_shut_15 : decode cX7_shut 15 = .ok (.aload_n 0, 1) := by decide +kernel
theorem dX7_shut_16 : decode cX7_shut 16 = .ok (.getfield 39, 3) := by decide +kernel
theorem dX7_shut_19 : decode cX7_shut 19 = .ok (.iload_n 1, 1) := by decide +kernel
theorem dX7_shut_20 : decode cX7_shut 20 = .ok (.aaload, 1) := by decide +kernel
theorem dX7_shut_21 : decode cX7_shut 21 = .ok (.bipush 6, 2) := by decide +kernel
theorem dX7_shut_23 : decode cX7_shut 23 = .ok (.iaload, 1) := by decide +kernel
theorem dX7_shut_24 : decode cX7_shut 24 = .ok (.istore_n 3, 1) := by decide +kernel
theorem dX7_shut_25 : decode cX7_shut 25 = .ok (.aload_n 0, 1) := by decide +kernel
theorem dX7_shut_26 : decode cX7_shut 26 = .ok (.getfield 39, 3) := by decide +kernel
theorem dX7_shut_29 : decode cX7_shut 29 = .ok (.iload_n 1, 1) := by decide +kernel
theorem dX7_shut_30 : decode cX7_shut 30 = .ok (.aaload, 1) := by decide +kernel
theorem dX7_shut_31 : decode cX7_shut 31 = .ok (.bipush 6, 2) := by decide +kernel
theorem dX7_shut_33 : decode cX7_shut 33 = .ok (.iload_n 2, 1) := by decide +kernel
theorem dX7_shut_34 : decode cX7_shut 34 = .ok (.ifCond .eq 7, 3) := by decide +kernel
theorem dX7_shut_37 : decode cX7_shut 37 = .ok (.iconst 1, 1) := by decide +kernel
theorem dX7_shut_38 : decode cX7_shut 38 = .ok (.goto 4, 3) := by decide +kernel
theorem dX7_shut_41 : decode cX7_shut 41 = .ok (.iconst 0, 1) := by decide +kernel
theorem dX7_shut_42 : decode cX7_shut 42 = .ok (.iastore, 1) := by decide +kernel
theorem dX7_shut_43 : decode cX7_shut 43 = .ok (.iload_n 3, 1) := by decide +kernel
theorem dX7_shut_44 : decode cX7_shut 44 = .ok (.aload_n 0, 1) := by decide +kernel
theorem dX7_shut_45 : decode cX7_shut 45 = .ok (.getfield 39, 3) := by decide +kernel
theorem dX7_shut_48 : decode cX7_shut 48 = .ok (.iload_n 1, 1) := by decide +kernel
theorem dX7_shut_49 : decode cX7_shut 49 = .ok (.aaload, 1) := by decide +kernel
theorem dX7_shut_50 : decode cX7_shut 50 = .ok (.bipush 6, 2) := by decide +kernel
theorem dX7_shut_52 : decode cX7_shut 52 = .ok (.iaload, 1) := by decide +kernel
theorem dX7_shut_53 : decode cX7_shut 53 = .ok (.if_icmp .eq 7, 3) := by decide +kernel
theorem dX7_shut_56 : decode cX7_shut 56 = .ok (.iconst 1, 1) := by decide +kernel
theorem dX7_shut_57 : decode cX7_shut 57 = .ok (.goto 4, 3) := by decide +kernel
theorem dX7_shut_60 : decode cX7_shut 60 = .ok (.iconst 0, 1) := by decide +kernel
theorem dX7_shut_61 : decode cX7_shut 61 = .ok (.ireturn, 1) := by decide +kernel
theorem dX7_stand_0 : decode cX7_stand 0 = .ok (.aload_n 0, 1) := by decide +kernel
theorem dX7_stand_1 : decode cX7_stand 1 = .ok (.iload_n 1, 1) := by decide +kernel
theorem dX7_stand_2 : decode cX7_stand 2 = .ok (.invokevirtual 97, 3) := by decide +kernel
theorem dX7_stand_5 : decode cX7_stand 5 = .ok (.ifCond .eq 15, 3) := by decide +kernel
theorem dX7_stand_8 : decode cX7_stand 8 = .ok (.iload_n 2, 1) := by decide +kernel
theorem dX7_stand_9 : decode cX7_stand 9 = .ok (.i2l, 1) := by decide +kernel
theorem dX7_stand_10 : decode cX7_stand 10 = .ok (.lconst 0, 1) := by decide +kernel
theorem dX7_stand_11 : decode cX7_stand 11 = .ok (.ldc2_w 134, 3) := by decide +kernel
theorem dX7_stand_14 : decode cX7_stand 14 = .ok (.invokestatic 62, 3) := by decide +kernel
theorem dX7_stand_17 : decode cX7_stand 17 = .ok (.ifCond .ne 10, 3) := by decide +kernel
theorem dX7_stand_20 : decode cX7_stand 20 = .ok (.aload_n 0, 1) := by decide +kernel
theorem dX7_stand_21 : decode cX7_stand 21 = .ok (.bipush (-2), 2) := by decide +kernel
theorem dX7_stand_23 : decode cX7_stand 23 = .ok (.invokevirtual 89, 3) := by decide +kernel
theorem dX7_stand_26 : decode cX7_stand 26 = .ok (.ireturn, 1) := by decide +kernel
theorem dX7_stand_27 : decode cX7_stand 27 = .ok (.iload_n 2, 1) := by decide +kernel
theorem dX7_stand_28 : decode cX7_stand 28 = .ok (.ifCond .ne 22, 3) := by decide +kernel
theorem dX7_stand_31 : decode cX7_stand 31 = .ok (.aload_n 0, 1) := by decide +kernel
theorem dX7_stand_32 : decode cX7_stand 32 = .ok (.getfield 42, 3) := by decide +kernel
theorem dX7_stand_35 : decode cX7_stand 35 = .ok (.iload_n 1, 1) := by decide +kernel
theorem dX7_stand_36 : decode cX7_stand 36 = .ok (.aaload, 1) := by decide +kernel
theorem dX7_stand_37 : decode cX7_stand 37 = .ok (.iconst 1, 1) := by decide +kernel
theorem dX7_stand_38 : decode cX7_stand 38 = .ok (.iaload, 1) := by decide +kernel
theorem dX7_stand_39 : decode cX7_stand 39 = .ok (.iconst 3, 1) := by decide +kernel
theorem dX7_stand_40 : decode cX7_stand 40 = .ok (.if_icmp .ne 10, 3) := by decide +kernel
theorem dX7_stand_43 : decode cX7_stand 43 = .ok (.aload_n 0, 1) := by decide +kernel
theorem dX7_stand_44 : decode cX7_stand 44 = .ok (.bipush (-5), 2) := by decide +kernel
theorem dX7_stand_46 : decode cX7_stand 46 = .ok (.invokevirtual 89, 3) := by decide +kernel
theorem dX7_stand_49 : decode cX7_stand 49 = .ok (.ireturn, 1) := by decide +kernel
theorem dX7_stand_50 : decode cX7_stand 50 = .ok (.aload_n 0, 1) := by decide +kernel
theorem dX7_stand_51 : decode cX7_stand 51 = .ok (.getfield 42, 3) := by decide +kernel
theorem dX7_stand_54 : decode cX7_stand 54 = .ok (.iload_n 1, 1) := by decide +kernel
theorem dX7_stand_55 : decode cX7_stand 55 = .ok (.aaload, 1) := by decide +kernel
theorem dX7_stand_56 : decode cX7_stand 56 = .ok (.bipush 7, 2) := by decide +kernel
theorem dX7_stand_58 : decode cX7_stand 58 = .ok (.iload_n 2, 1) := by decide +kernel
theorem dX7_stand_59 : decode cX7_stand 59 = .ok (.iadd, 1) := by decide +kernel
theorem dX7_stand_60 : decode cX7_stand 60 = .ok (.iaload, 1) := by decide +kernel
theorem dX7_stand_61 : decode cX7_stand 61 = .ok (.istore 4, 2) := by decide +kernel
theorem dX7_stand_63 : decode cX7_stand 63 = .ok (.aload_n 0, 1) := by decide +kernel
theorem dX7_stand_64 : decode cX7_stand 64 = .ok (.getfield 42, 3) := by decide +kernel
theorem dX7_stand_67 : decode cX7_stand 67 = .ok (.iload_n 1, 1) := by decide +kernel
theorem dX7_stand_68 : decode cX7_stand 68 = .ok (.aaload, 1) := by decide +kernel
theorem dX7_stand_69 : decode cX7_stand 69 = .ok (.bipush 7, 2) := by decide +kernel
theorem dX7_stand_71 : decode cX7_stand 71 = .ok (.iload_n 2, 1) := by decide +kernel
theorem dX7_stand_72 : decode cX7_stand 72 = .ok (.iadd, 1) := by decide +kernel
theorem dX7_stand_73 : decode cX7_stand 73 = .ok (.iload_n 3, 1) := by decide +kernel
theorem dX7_stand_74 : decode cX7_stand 74 = .ok (.ifCond .eq 7, 3) := by decide +kernel
theorem dX7_stand_77 : decode cX7_stand 77 = .ok (.iconst 1, 1) := by decide +kernel
theorem dX7_stand_78 : decode cX7_stand 78 = .ok (.goto 4, 3) := by decide +kernel
theorem dX7_stand_81 : decode cX7_stand 81 = .ok (.iconst 0, 1) := by decide +kernel
theorem dX7_stand_82 : decode cX7_stand 82 = .ok (.iastore, 1) := by decide +kernel
theorem dX7_stand_83 : decode cX7_stand 83 = .ok (.iload 4, 2) := by decide +kernel
theorem dX7_stand_85 : decode cX7_stand 85 = .ok (.aload_n 0, 1) := by decide +kernel
theorem dX7_stand_86 : decode cX7_stand 86 = .ok (.getfield 42, 3) := by decide +kernel
theorem dX7_stand_89 : decode cX7_stand 89 = .ok (.iload_n 1, 1) := by decide +kernel
theorem dX7_stand_90 : decode cX7_stand 90 = .ok (.aaload, 1) := by decide +kernel
theorem dX7_stand_91 : decode cX7_stand 91 = .ok (.bipush 7, 2) := by decide +kernel
theorem dX7_stand_93 : decode cX7_stand 93 = .ok (.iload_n 2, 1) := by decide +kernel
theorem dX7_stand_94 : decode cX7_stand 94 = .ok (.iadd, 1) := by decide +kernel
theorem dX7_stand_95 : decode cX7_stand 95 = .ok (.iaload, 1) := by decide +kernel
theorem dX7_stand_96 : decode cX7_stand 96 = .ok (.if_icmp .eq 7, 3) := by decide +kernel
theorem dX7_stand_99 : decode cX7_stand 99 = .ok (.iconst 1, 1) := by decide +kernel
theorem dX7_stand_100 : decode cX7_stand 100 = .ok (.goto 4, 3) := by decide +kernel
theorem dX7_stand_103 : decode cX7_stand 103 = .ok (.iconst 0, 1) := by decide +kernel
theorem dX7_stand_104 : decode cX7_stand 104 = .ok (.ireturn, 1) := by decide +kernel
theorem dX7_strain_0 : decode cX7_strain 0 = .ok (.aload_n 0, 1) := by decide +kernel
theorem dX7_strain_1 : decode cX7_strain 1 = .ok (.iload_n 1, 1) := by decide +kernel
theorem dX7_strain_2 : decode cX7_strain 2 = .ok (.iload_n 2, 1) := by decide +kernel
theorem dX7_strain_3 : decode cX7_strain 3 = .ok (.invokevirtual 260, 3) := by decide +kernel
theorem dX7_strain_6 : decode cX7_strain 6 = .ok (.ifCond .eq 21, 3) := by decide +kernel
theorem dX7_strain_9 : decode cX7_strain 9 = .ok (.aload_n 0, 1) := by decide +kernel
theorem dX7_strain_10 : decode cX7_strain 10 = .ok (.iload_n 3, 1) := by decide +kernel
theorem dX7_strain_11 : decode cX7_strain 11 = .ok (.invokevirtual 97, 3) := by decide +kernel
theorem dX7_strain_14 : decode cX7_strain 14 = .ok (.ifCond .eq 13, 3) := by decide +kernel
theorem dX7_strain_17 : decode cX7_strain 17 = .ok (.aload_n 0, 1) := by decide +kernel
theorem dX7_strain_18 : decode cX7_strain 18 = .ok (.iload_n 1, 1) := by decide +kernel
theorem dX7_strain_19 : decode cX7_strain 19 = .ok (.iload_n 2, 1) := by decide +kernel
theorem dX7_strain_20 : decode cX7_strain 20 = .ok (.iload_n 3, 1) := by decide +kernel
theorem dX7_strain_21 : decode cX7_strain 21 = .ok (.invokevirtual 267, 3) := by decide +kernel
theorem dX7_strain_24 : decode cX7_strain 24 = .ok (.goto 9, 3) := by decide +kernel
theorem dX7_strain_27 : decode cX7_strain 27 = .ok (.aload_n 0, 1) := by decide +kernel
theorem dX7_strain_28 : decode cX7_strain 28 = .ok (.bipush (-2), 2) := by decide +kernel
theorem dX7_strain_30 : decode cX7_strain 30 = .ok (.invokevirtual 89, 3) := by decide +kernel
theorem dX7_strain_33 : decode cX7_strain 33 = .ok (.ireturn, 1) := by decide +kernel
theorem dX7_waggon_0 : decode cX7_waggon 0 = .ok (.iload_n 1, 1) := by decide +kernel
theorem dX7_waggon_1 : decode cX7_waggon 1 = .ok (.i2l, 1) := by decide +kernel
theorem dX7_waggon_2 : decode cX7_waggon 2 = .ok (.ldc2_w 134, 3) := by decide +kernel
theorem dX7_waggon_5 : decode cX7_waggon 5 = .ok (.ldc2_w 136, 3) := by decide +kernel
theorem dX7_waggon_8 : decode cX7_waggon 8 = .ok (.invokestatic 62, 3) := by decide +kernel
theorem dX7_waggon_11 : decode cX7_waggon 11 = .ok (.ifCond .eq 27, 3) := by decide +kernel
theorem dX7_waggon_14 : decode cX7_waggon 14 = .ok (.iload_n 2, 1) := by decide +kernel
theorem dX7_waggon_15 : decode cX7_waggon 15 = .ok (.i2l, 1) := by decide +kernel
theorem dX7_waggon_16 : decode cX7_waggon 16 = .ok (.lconst 1, 1) := by decide +kernel
theorem dX7_waggon_17 : decode cX7_waggon 17 = .ok (.ldc2_w 118, 3) := by decide +kernel
theorem dX7_waggon_20 : decode cX7_waggon 20 = .ok (.invokestatic 62, 3) := by decide +kernel
theorem dX7_waggon_23 : decode cX7_waggon 23 = .ok (.ifCond .eq 15, 3) := by decide +kernel
theorem dX7_waggon_26 : decode cX7_waggon 26 = .ok (.iload_n 3, 1) := by decide +kernel
theorem dX7_waggon_27 : decode cX7_waggon 27 = .ok (.i2l, 1) := by decide +kernel
theorem dX7_waggon_28 : decode cX7_waggon 28 = .ok (.lconst 0, 1) := by decide +kernel
theorem dX7_waggon_29 : decode cX7_waggon 29 = .ok (.ldc2_w 120, 3) := by decide +kernel
theorem dX7_waggon_32 : decode cX7_waggon 32 = .ok (.invokestatic 62, 3) := by decide +kernel
theorem dX7_waggon_35 : decode cX7_waggon 35 = .ok (.ifCond .ne 10, 3) := by decide +kernel
theorem dX7_waggon_38 : decode cX7_waggon 38 = .ok (.aload_n 0, 1) := by decide +kernel
theorem dX7_waggon_39 : decode cX7_waggon 39 = .ok (.bipush (-2), 2) := by decide +kernel
theorem dX7_waggon_41 : decode cX7_waggon 41 = .ok (.invokevirtual 89, 3) := by decide +kernel
theorem dX7_waggon_44 : decode cX7_waggon 44 = .ok (.ireturn, 1) := by decide +kernel
theorem dX7_waggon_45 : decode cX7_waggon 45 = .ok (.aload_n 0, 1) := by decide +kernel
theorem dX7_waggon_46 : decode cX7_waggon 46 = .ok (.getfield 73, 3) := by decide +kernel
theorem dX7_waggon_49 : decode cX7_waggon 49 = .ok (.iconst 5, 1) := by decide +kernel
theorem dX7_waggon_50 : decode cX7_waggon 50 = .ok (.if_icmp .ne 10, 3) := by decide +kernel
theorem dX7_waggon_53 : decode cX7_waggon 53 = .ok (.aload_n 0, 1) := by decide +kernel
theorem dX7_waggon_54 : decode cX7_waggon 54 = .ok (.bipush (-6), 2) := by decide +kernel
theorem dX7_waggon_56 : decode cX7_waggon 56 = .ok (.invokevirtual 89, 3) := by decide +kernel
theorem dX7_waggon_59 : decode cX7_waggon 59 = .ok (.ireturn, 1) := by decide +kernel
theorem dX7_waggon_60 : decode cX7_waggon 60 = .ok (.aload_n 0, 1) := by decide +kernel
theorem dX7_waggon_61 : decode cX7_waggon 61 = .ok (.getfield 45, 3) := by decide +kernel
theorem dX7_waggon_64 : decode cX7_waggon 64 = .ok (.aload_n 0, 1) := by decide +kernel
theorem dX7_waggon_65 : decode cX7_waggon 65 = .ok (.getfield 73, 3) := by decide +kernel
theorem dX7_waggon_68 : decode cX7_waggon 68 = .ok (.aaload, 1) := by decide +kernel
theorem dX7_waggon_69 : decode cX7_waggon 69 = .ok (.iconst 0, 1) := by decide +kernel
theorem dX7_waggon_70 : decode cX7_waggon 70 = .ok (.iload_n 1, 1) := by decide +kernel
theorem dX7_waggon_71 : decode cX7_waggon 71 = .ok (.iastore, 1) := by decide +kernel
theorem dX7_waggon_72 : decode cX7_waggon 72 = .ok (.aload_n 0, 1) := by decide +kernel
theorem dX7_waggon_73 : decode cX7_waggon 73 = .ok (.getfield 45, 3) := by decide +kernel
theorem dX7_waggon_76 : decode cX7_waggon 76 = .ok (.aload_n 0, 1) := by decide +kernel
theorem dX7_waggon_77 : decode cX7_waggon 77 = .ok (.getfield 73, 3) := by decide +kernel
theorem dX7_waggon_80 : decode cX7_waggon 80 = .ok (.aaload, 1) := by decide +kernel
theorem dX7_waggon_81 : decode cX7_waggon 81 = .ok (.iconst 1, 1) := by decide +kernel
theorem dX7_waggon_82 : decode cX7_waggon 82 = .ok (.iload_n 2, 1) := by decide +kernel
theorem dX7_waggon_83 : decode cX7_waggon 83 = .ok (.iastore, 1) := by decide +kernel
theorem dX7_waggon_84 : decode cX7_waggon 84 = .ok (.aload_n 0, 1) := by decide +kernel
theorem dX7_waggon_85 : decode cX7_waggon 85 = .ok (.getfield 45, 3) := by decide +kernel
theorem dX7_waggon_88 : decode cX7_waggon 88 = .ok (.aload_n 0, 1) := by decide +kernel
theorem dX7_waggon_89 : decode cX7_waggon 89 = .ok (.getfield 73, 3) := by decide +kernel
theorem dX7_waggon_92 : decode cX7_waggon 92 = .ok (.aaload, 1) := by decide +kernel
theorem dX7_waggon_93 : decode cX7_waggon 93 = .ok (.iconst 2, 1) := by decide +kernel
theorem dX7_waggon_94 : decode cX7_waggon 94 = .ok (.iload_n 3, 1) := by decide +kernel
theorem dX7_waggon_95 : decode cX7_waggon 95 = .ok (.iastore, 1) := by decide +kernel
theorem dX7_waggon_96 : decode cX7_waggon 96 = .ok (.aload_n 0, 1) := by decide +kernel
theorem dX7_waggon_97 : decode cX7_waggon 97 = .ok (.dup, 1) := by decide +kernel
theorem dX7_waggon_98 : decode cX7_waggon 98 = .ok (.getfield 73, 3) := by decide +kernel
theorem dX7_waggon_101 : decode cX7_waggon 101 = .ok (.dup_x1, 1) := by decide +kernel
theorem dX7_waggon_102 : decode cX7_waggon 102 = .ok (.iconst 1, 1) := by decide +kernel
theorem dX7_waggon_103 : decode cX7_waggon 103 = .ok (.iadd, 1) := by decide +kernel
theorem dX7_waggon_104 : decode cX7_waggon 104 = .ok (.putfield 73, 3) := by decide +kernel
theorem dX7_waggon_107 : decode cX7_waggon 107 = .ok (.ireturn, 1) := by decide +kernel
theorem dX7_wipe_0 : decode cX7_wipe 0 = .ok (.aload_n 0, 1) := by decide +kernel
theorem dX7_wipe_1 : decode cX7_wipe 1 = .ok (.getfield 140, 3) := by decide +kernel
theorem dX7_wipe_4 : decode cX7_wipe 4 = .ok (.istore_n 1, 1) := by decide +kernel
theorem dX7_wipe_5 : decode cX7_wipe 5 = .ok (.aload_n 0, 1) := by decide +kernel
theorem dX7_wipe_6 : decode cX7_wipe 6 = .ok (.iconst 0, 1) := by decide +kernel
theorem dX7_wipe_7 : decode cX7_wipe 7 = .ok (.putfield 140, 3) := by decide +kernel
theorem dX7_wipe_10 : decode cX7_wipe 10 = .ok (.iload_n 1, 1) := by decide +kernel
theorem dX7_wipe_11 : decode cX7_wipe 11 = .ok (.ireturn, 1) := by decide +kernel

