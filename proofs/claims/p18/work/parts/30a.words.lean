theorem q_31 : Cond.selects RX7 yX7_axleOf yX7_axleOf ∈ oh_t := oh_of (i := 31) (by decide +kernel) rfl
theorem q_32 : Cond.selects RX7 yX7_isNothing yX7_isNothing ∈ oh_t := oh_of (i := 32) (by decide +kernel) rfl
theorem q_33 : Cond.selects RX7 yX7_isHalf yX7_isHalf ∈ oh_t := oh_of (i := 33) (by decide +kernel) rfl
theorem q_34 : Cond.selects RX7 yX7_allOf yX7_allOf ∈ oh_t := oh_of (i := 34) (by decide +kernel) rfl
theorem q_48 : Cond.selects RX7 yX7_isWaggon yX7_isWaggon ∈ oh_t := oh_of (i := 48) (by decide +kernel) rfl
theorem q_49 : Cond.selects RX7 yX7_lengthOf yX7_lengthOf ∈ oh_t := oh_of (i := 49) (by decide +kernel) rfl
theorem q_51 : Cond.selects RX7 yX7_axleLoad yX7_axleLoad ∈ oh_t := oh_of (i := 51) (by decide +kernel) rfl
theorem q_52 : Cond.selects RX7 yX7_strainOf yX7_strainOf ∈ oh_t := oh_of (i := 52) (by decide +kernel) rfl
theorem q_53 : Cond.selects RX7 yX7_needsOf yX7_needsOf ∈ oh_t := oh_of (i := 53) (by decide +kernel) rfl
theorem q_54 : Cond.selects RX7 yX7_goesOf yX7_goesOf ∈ oh_t := oh_of (i := 54) (by decide +kernel) rfl
theorem q_55 : Cond.selects RX7 yX7_enginesOf yX7_enginesOf ∈ oh_t := oh_of (i := 55) (by decide +kernel) rfl
theorem q_56 : Cond.selects RX7 yX7_coinOf yX7_coinOf ∈ oh_t := oh_of (i := 56) (by decide +kernel) rfl
theorem q_57 : Cond.selects RX7 yX7_propsOf yX7_propsOf ∈ oh_t := oh_of (i := 57) (by decide +kernel) rfl
theorem q_58 : Cond.selects RX7 yX7_daysOf yX7_daysOf ∈ oh_t := oh_of (i := 58) (by decide +kernel) rfl
theorem q_60 : Cond.selects RX7 yX7_findFar yX7_findFar ∈ oh_t := oh_of (i := 60) (by decide +kernel) rfl
theorem q_61 : Cond.selects RX7 yX7_partsCoin yX7_partsCoin ∈ oh_t := oh_of (i := 61) (by decide +kernel) rfl
theorem q_73 : Cond.initialized RX7 ∈ oh_t := oh_of (i := 73) (by decide +kernel) rfl
theorem q_981 : Cond.fieldLink RX7 34 "OneHeavyLoadModel" "refused" "[I" ∈ oh_t := oh_of (i := 981) (by decide +kernel) rfl
theorem q_982 : Cond.fieldLink RX7 66 "OneHeavyLoadModel" "roads" "I" ∈ oh_t := oh_of (i := 982) (by decide +kernel) rfl
theorem q_983 : Cond.fieldLink RX7 39 "OneHeavyLoadModel" "road" "[[I" ∈ oh_t := oh_of (i := 983) (by decide +kernel) rfl
theorem q_984 : Cond.fieldLink RX7 70 "OneHeavyLoadModel" "bridges" "I" ∈ oh_t := oh_of (i := 984) (by decide +kernel) rfl
theorem q_985 : Cond.fieldLink RX7 42 "OneHeavyLoadModel" "bridge" "[[I" ∈ oh_t := oh_of (i := 985) (by decide +kernel) rfl
theorem q_986 : Cond.fieldLink RX7 73 "OneHeavyLoadModel" "waggons" "I" ∈ oh_t := oh_of (i := 986) (by decide +kernel) rfl
theorem q_987 : Cond.fieldLink RX7 45 "OneHeavyLoadModel" "waggon" "[[I" ∈ oh_t := oh_of (i := 987) (by decide +kernel) rfl
theorem q_988 : Cond.fieldLink RX7 80 "OneHeavyLoadModel" "parts" "I" ∈ oh_t := oh_of (i := 988) (by decide +kernel) rfl
theorem q_989 : Cond.fieldLink RX7 48 "OneHeavyLoadModel" "part" "[[I" ∈ oh_t := oh_of (i := 989) (by decide +kernel) rfl
theorem q_990 : Cond.fieldLink RX7 51 "OneHeavyLoadModel" "asked" "[I" ∈ oh_t := oh_of (i := 990) (by decide +kernel) rfl
theorem q_1000 : Cond.fieldLink RX7 57 "OneHeavyLoadModel" "far" "[J" ∈ oh_t := oh_of (i := 1000) (by decide +kernel) rfl
theorem q_1066 : Cond.methodLink RX7 62 yX7_in ∈ oh_t := oh_of (i := 1066) (by decide +kernel) rfl
theorem q_1067 : Cond.static yX7_in ∈ oh_t := oh_of (i := 1067) (by decide +kernel) rfl
theorem q_1068 : Cond.code yX7_in cX7_in 6 (some .boolean) ∈ oh_t := oh_of (i := 1068) (by decide +kernel) rfl
theorem q_1110 : Cond.methodLink RX7 106 yX7_axleOf ∈ oh_t := oh_of (i := 1110) (by decide +kernel) rfl
theorem q_1112 : Cond.instanceMethod yX7_axleOf ∈ oh_t := oh_of (i := 1112) (by decide +kernel) rfl
theorem q_1113 : Cond.code yX7_axleOf cX7_axleOf 4 (some .int) ∈ oh_t := oh_of (i := 1113) (by decide +kernel) rfl
theorem q_1114 : Cond.methodLink RX7 251 yX7_isNothing ∈ oh_t := oh_of (i := 1114) (by decide +kernel) rfl
theorem q_1116 : Cond.instanceMethod yX7_isNothing ∈ oh_t := oh_of (i := 1116) (by decide +kernel) rfl
theorem q_1117 : Cond.code yX7_isNothing cX7_isNothing 2 (some .boolean) ∈ oh_t := oh_of (i := 1117) (by decide +kernel) rfl
theorem q_1118 : Cond.methodLink RX7 254 yX7_isHalf ∈ oh_t := oh_of (i := 1118) (by decide +kernel) rfl
theorem q_1120 : Cond.instanceMethod yX7_isHalf ∈ oh_t := oh_of (i := 1120) (by decide +kernel) rfl
theorem q_1121 : Cond.code yX7_isHalf cX7_isHalf 2 (some .boolean) ∈ oh_t := oh_of (i := 1121) (by decide +kernel) rfl
theorem q_1122 : Cond.methodLink RX7 109 yX7_allOf ∈ oh_t := oh_of (i := 1122) (by decide +kernel) rfl
theorem q_1124 : Cond.instanceMethod yX7_allOf ∈ oh_t := oh_of (i := 1124) (by decide +kernel) rfl
theorem q_1125 : Cond.code yX7_allOf cX7_allOf 5 (some .int) ∈ oh_t := oh_of (i := 1125) (by decide +kernel) rfl
theorem q_1133 : Cond.constantLong RX7 60 15 ∈ oh_t := oh_of (i := 1133) (by decide +kernel) rfl
theorem q_1278 : Cond.methodLink RX7 76 yX7_isWaggon ∈ oh_t := oh_of (i := 1278) (by decide +kernel) rfl
theorem q_1280 : Cond.instanceMethod yX7_isWaggon ∈ oh_t := oh_of (i := 1280) (by decide +kernel) rfl
theorem q_1281 : Cond.code yX7_isWaggon cX7_isWaggon 2 (some .boolean) ∈ oh_t := oh_of (i := 1281) (by decide +kernel) rfl
theorem q_1282 : Cond.methodLink RX7 257 yX7_lengthOf ∈ oh_t := oh_of (i := 1282) (by decide +kernel) rfl
theorem q_1284 : Cond.instanceMethod yX7_lengthOf ∈ oh_t := oh_of (i := 1284) (by decide +kernel) rfl
theorem q_1285 : Cond.code yX7_lengthOf cX7_lengthOf 2 (some .int) ∈ oh_t := oh_of (i := 1285) (by decide +kernel) rfl
theorem q_1294 : Cond.methodLink RX7 263 yX7_axleLoad ∈ oh_t := oh_of (i := 1294) (by decide +kernel) rfl
theorem q_1296 : Cond.instanceMethod yX7_axleLoad ∈ oh_t := oh_of (i := 1296) (by decide +kernel) rfl
theorem q_1297 : Cond.code yX7_axleLoad cX7_axleLoad 5 (some .int) ∈ oh_t := oh_of (i := 1297) (by decide +kernel) rfl
theorem q_1302 : Cond.methodLink RX7 267 yX7_strainOf ∈ oh_t := oh_of (i := 1302) (by decide +kernel) rfl
theorem q_1304 : Cond.instanceMethod yX7_strainOf ∈ oh_t := oh_of (i := 1304) (by decide +kernel) rfl
theorem q_1305 : Cond.code yX7_strainOf cX7_strainOf 5 (some .int) ∈ oh_t := oh_of (i := 1305) (by decide +kernel) rfl
theorem q_1310 : Cond.methodLink RX7 271 yX7_needsOf ∈ oh_t := oh_of (i := 1310) (by decide +kernel) rfl
theorem q_1312 : Cond.instanceMethod yX7_needsOf ∈ oh_t := oh_of (i := 1312) (by decide +kernel) rfl
theorem q_1313 : Cond.code yX7_needsOf cX7_needsOf 6 (some .int) ∈ oh_t := oh_of (i := 1313) (by decide +kernel) rfl
theorem q_1318 : Cond.methodLink RX7 281 yX7_goesOf ∈ oh_t := oh_of (i := 1318) (by decide +kernel) rfl
theorem q_1320 : Cond.instanceMethod yX7_goesOf ∈ oh_t := oh_of (i := 1320) (by decide +kernel) rfl
theorem q_1321 : Cond.code yX7_goesOf cX7_goesOf 5 (some .boolean) ∈ oh_t := oh_of (i := 1321) (by decide +kernel) rfl
theorem q_1322 : Cond.methodLink RX7 274 yX7_enginesOf ∈ oh_t := oh_of (i := 1322) (by decide +kernel) rfl
theorem q_1324 : Cond.instanceMethod yX7_enginesOf ∈ oh_t := oh_of (i := 1324) (by decide +kernel) rfl
theorem q_1325 : Cond.code yX7_enginesOf cX7_enginesOf 4 (some .int) ∈ oh_t := oh_of (i := 1325) (by decide +kernel) rfl
theorem q_1326 : Cond.methodLink RX7 285 yX7_coinOf ∈ oh_t := oh_of (i := 1326) (by decide +kernel) rfl
theorem q_1328 : Cond.instanceMethod yX7_coinOf ∈ oh_t := oh_of (i := 1328) (by decide +kernel) rfl
theorem q_1329 : Cond.code yX7_coinOf cX7_coinOf 5 (some .int) ∈ oh_t := oh_of (i := 1329) (by decide +kernel) rfl
theorem q_1330 : Cond.methodLink RX7 277 yX7_propsOf ∈ oh_t := oh_of (i := 1330) (by decide +kernel) rfl
theorem q_1332 : Cond.instanceMethod yX7_propsOf ∈ oh_t := oh_of (i := 1332) (by decide +kernel) rfl
theorem q_1333 : Cond.code yX7_propsOf cX7_propsOf 7 (some .int) ∈ oh_t := oh_of (i := 1333) (by decide +kernel) rfl
theorem q_1334 : Cond.methodLink RX7 289 yX7_daysOf ∈ oh_t := oh_of (i := 1334) (by decide +kernel) rfl
theorem q_1336 : Cond.instanceMethod yX7_daysOf ∈ oh_t := oh_of (i := 1336) (by decide +kernel) rfl
theorem q_1337 : Cond.code yX7_daysOf cX7_daysOf 4 (some .int) ∈ oh_t := oh_of (i := 1337) (by decide +kernel) rfl
theorem q_1351 : Cond.methodLink RX7 294 yX7_findFar ∈ oh_t := oh_of (i := 1351) (by decide +kernel) rfl
theorem q_1353 : Cond.instanceMethod yX7_findFar ∈ oh_t := oh_of (i := 1353) (by decide +kernel) rfl
theorem q_1354 : Cond.code yX7_findFar cX7_findFar 10 none ∈ oh_t := oh_of (i := 1354) (by decide +kernel) rfl
theorem q_1355 : Cond.constantLong RX7 292 1000000000000 ∈ oh_t := oh_of (i := 1355) (by decide +kernel) rfl
theorem q_1356 : Cond.methodLink RX7 298 yX7_partsCoin ∈ oh_t := oh_of (i := 1356) (by decide +kernel) rfl
theorem q_1358 : Cond.instanceMethod yX7_partsCoin ∈ oh_t := oh_of (i := 1358) (by decide +kernel) rfl
theorem q_1359 : Cond.code yX7_partsCoin cX7_partsCoin 4 (some .int) ∈ oh_t := oh_of (i := 1359) (by decide +kernel) rfl
theorem pdVX7_allOf : yX7_allOf.cls = RX7 ∧ yX7_allOf.cls ≠ "java/lang/invoke/MethodHandle" ∧ yX7_allOf.cls ≠ "java/lang/invoke/VarHandle" ∧ (parseMethodDescriptor yX7_allOf.desc).map (fun d => d.parameters.length) = some 2 := by decide +kernel
theorem pdVX7_axleLoad : yX7_axleLoad.cls = RX7 ∧ yX7_axleLoad.cls ≠ "java/lang/invoke/MethodHandle" ∧ yX7_axleLoad.cls ≠ "java/lang/invoke/VarHandle" ∧ (parseMethodDescriptor yX7_axleLoad.desc).map (fun d => d.parameters.length) = some 2 := by decide +kernel
theorem pdVX7_axleOf : yX7_axleOf.cls = RX7 ∧ yX7_axleOf.cls ≠ "java/lang/invoke/MethodHandle" ∧ yX7_axleOf.cls ≠ "java/lang/invoke/VarHandle" ∧ (parseMethodDescriptor yX7_axleOf.desc).map (fun d => d.parameters.length) = some 1 := by decide +kernel
theorem pdVX7_coinOf : yX7_coinOf.cls = RX7 ∧ yX7_coinOf.cls ≠ "java/lang/invoke/MethodHandle" ∧ yX7_coinOf.cls ≠ "java/lang/invoke/VarHandle" ∧ (parseMethodDescriptor yX7_coinOf.desc).map (fun d => d.parameters.length) = some 4 := by decide +kernel
theorem pdVX7_daysOf : yX7_daysOf.cls = RX7 ∧ yX7_daysOf.cls ≠ "java/lang/invoke/MethodHandle" ∧ yX7_daysOf.cls ≠ "java/lang/invoke/VarHandle" ∧ (parseMethodDescriptor yX7_daysOf.desc).map (fun d => d.parameters.length) = some 3 := by decide +kernel
theorem pdVX7_enginesOf : yX7_enginesOf.cls = RX7 ∧ yX7_enginesOf.cls ≠ "java/lang/invoke/MethodHandle" ∧ yX7_enginesOf.cls ≠ "java/lang/invoke/VarHandle" ∧ (parseMethodDescriptor yX7_enginesOf.desc).map (fun d => d.parameters.length) = some 3 := by decide +kernel
theorem pdVX7_findFar : yX7_findFar.cls = RX7 ∧ yX7_findFar.cls ≠ "java/lang/invoke/MethodHandle" ∧ yX7_findFar.cls ≠ "java/lang/invoke/VarHandle" ∧ (parseMethodDescriptor yX7_findFar.desc).map (fun d => d.parameters.length) = some 4 := by decide +kernel
theorem pdVX7_goesOf : yX7_goesOf.cls = RX7 ∧ yX7_goesOf.cls ≠ "java/lang/invoke/MethodHandle" ∧ yX7_goesOf.cls ≠ "java/lang/invoke/VarHandle" ∧ (parseMethodDescriptor yX7_goesOf.desc).map (fun d => d.parameters.length) = some 3 := by decide +kernel
theorem pdX7_in : yX7_in.cls ≠ "java/lang/invoke/MethodHandle" ∧ yX7_in.cls ≠ "java/lang/invoke/VarHandle" ∧ (parseMethodDescriptor yX7_in.desc).map (fun d => d.parameters.length) = some 3 := by decide +kernel
theorem pdVX7_isHalf : yX7_isHalf.cls = RX7 ∧ yX7_isHalf.cls ≠ "java/lang/invoke/MethodHandle" ∧ yX7_isHalf.cls ≠ "java/lang/invoke/VarHandle" ∧ (parseMethodDescriptor yX7_isHalf.desc).map (fun d => d.parameters.length) = some 1 := by decide +kernel
theorem pdVX7_isNothing : yX7_isNothing.cls = RX7 ∧ yX7_isNothing.cls ≠ "java/lang/invoke/MethodHandle" ∧ yX7_isNothing.cls ≠ "java/lang/invoke/VarHandle" ∧ (parseMethodDescriptor yX7_isNothing.desc).map (fun d => d.parameters.length) = some 1 := by decide +kernel
theorem pdVX7_isWaggon : yX7_isWaggon.cls = RX7 ∧ yX7_isWaggon.cls ≠ "java/lang/invoke/MethodHandle" ∧ yX7_isWaggon.cls ≠ "java/lang/invoke/VarHandle" ∧ (parseMethodDescriptor yX7_isWaggon.desc).map (fun d => d.parameters.length) = some 1 := by decide +kernel
theorem pdVX7_lengthOf : yX7_lengthOf.cls = RX7 ∧ yX7_lengthOf.cls ≠ "java/lang/invoke/MethodHandle" ∧ yX7_lengthOf.cls ≠ "java/lang/invoke/VarHandle" ∧ (parseMethodDescriptor yX7_lengthOf.desc).map (fun d => d.parameters.length) = some 1 := by decide +kernel
theorem pdVX7_needsOf : yX7_needsOf.cls = RX7 ∧ yX7_needsOf.cls ≠ "java/lang/invoke/MethodHandle" ∧ yX7_needsOf.cls ≠ "java/lang/invoke/VarHandle" ∧ (parseMethodDescriptor yX7_needsOf.desc).map (fun d => d.parameters.length) = some 3 := by decide +kernel
theorem pdVX7_partsCoin : yX7_partsCoin.cls = RX7 ∧ yX7_partsCoin.cls ≠ "java/lang/invoke/MethodHandle" ∧ yX7_partsCoin.cls ≠ "java/lang/invoke/VarHandle" ∧ (parseMethodDescriptor yX7_partsCoin.desc).map (fun d => d.parameters.length) = some 1 := by decide +kernel
theorem pdVX7_propsOf : yX7_propsOf.cls = RX7 ∧ yX7_propsOf.cls ≠ "java/lang/invoke/MethodHandle" ∧ yX7_propsOf.cls ≠ "java/lang/invoke/VarHandle" ∧ (parseMethodDescriptor yX7_propsOf.desc).map (fun d => d.parameters.length) = some 4 := by decide +kernel
theorem pdVX7_strainOf : yX7_strainOf.cls = RX7 ∧ yX7_strainOf.cls ≠ "java/lang/invoke/MethodHandle" ∧ yX7_strainOf.cls ≠ "java/lang/invoke/VarHandle" ∧ (parseMethodDescriptor yX7_strainOf.desc).map (fun d => d.parameters.length) = some 3 := by decide +kernel
theorem dX7_allOf_0 : decode cX7_allOf 0 = .ok (.aload_n 0, 1) := by decide +kernel
theorem dX7_allOf_1 : decode cX7_allOf 1 = .ok (.getfield 42, 3) := by decide +kernel
theorem dX7_allOf_4 : decode cX7_allOf 4 = .ok (.iload_n 1, 1) := by decide +kernel
theorem dX7_allOf_5 : decode cX7_allOf 5 = .ok (.aaload, 1) := by decide +kernel
theorem dX7_allOf_6 : decode cX7_allOf 6 = .ok (.iconst 1, 1) := by decide +kernel
theorem dX7_allOf_7 : decode cX7_allOf 7 = .ok (.iaload, 1) := by decide +kernel
theorem dX7_allOf_8 : decode cX7_allOf 8 = .ok (.istore_n 3, 1) := by decide +kernel
theorem dX7_allOf_9 : decode cX7_allOf 9 = .ok (.aload_n 0, 1) := by decide +kernel
theorem dX7_allOf_10 : decode cX7_allOf 10 = .ok (.getfield 42, 3) := by decide +kernel
theorem dX7_allOf_13 : decode cX7_allOf 13 = .ok (.iload_n 1, 1) := by decide +kernel
theorem dX7_allOf_14 : decode cX7_allOf 14 = .ok (.aaload, 1) := by decide +kernel
theorem dX7_allOf_15 : decode cX7_allOf 15 = .ok (.bipush 8, 2) := by decide +kernel
theorem dX7_allOf_17 : decode cX7_allOf 17 = .ok (.iaload, 1) := by decide +kernel
theorem dX7_allOf_18 : decode cX7_allOf 18 = .ok (.iconst 1, 1) := by decide +kernel
theorem dX7_allOf_19 : decode cX7_allOf 19 = .ok (.if_icmp .ne 5, 3) := by decide +kernel
theorem dX7_allOf_22 : decode cX7_allOf 22 = .ok (.iconst 0, 1) := by decide +kernel
theorem dX7_allOf_23 : decode cX7_allOf 23 = .ok (.ireturn, 1) := by decide +kernel
theorem dX7_allOf_24 : decode cX7_allOf 24 = .ok (.aload_n 0, 1) := by decide +kernel
theorem dX7_allOf_25 : decode cX7_allOf 25 = .ok (.getfield 42, 3) := by decide +kernel
theorem dX7_allOf_28 : decode cX7_allOf 28 = .ok (.iload_n 1, 1) := by decide +kernel
theorem dX7_allOf_29 : decode cX7_allOf 29 = .ok (.aaload, 1) := by decide +kernel
theorem dX7_allOf_30 : decode cX7_allOf 30 = .ok (.iconst 4, 1) := by decide +kernel
theorem dX7_allOf_31 : decode cX7_allOf 31 = .ok (.iaload, 1) := by decide +kernel
theorem dX7_allOf_32 : decode cX7_allOf 32 = .ok (.istore 4, 2) := by decide +kernel
theorem dX7_allOf_34 : decode cX7_allOf 34 = .ok (.iload 4, 2) := by decide +kernel
theorem dX7_allOf_36 : decode cX7_allOf 36 = .ok (.iload_n 3, 1) := by decide +kernel
theorem dX7_allOf_37 : decode cX7_allOf 37 = .ok (.iconst 1, 1) := by decide +kernel
theorem dX7_allOf_38 : decode cX7_allOf 38 = .ok (.if_icmp .eq 8, 3) := by decide +kernel
theorem dX7_allOf_41 : decode cX7_allOf 41 = .ok (.iload_n 3, 1) := by decide +kernel
theorem dX7_allOf_42 : decode cX7_allOf 42 = .ok (.iconst 2, 1) := by decide +kernel
theorem dX7_allOf_43 : decode cX7_allOf 43 = .ok (.if_icmp .ne 11, 3) := by decide +kernel
theorem dX7_allOf_46 : decode cX7_allOf 46 = .ok (.iload 4, 2) := by decide +kernel
theorem dX7_allOf_48 : decode cX7_allOf 48 = .ok (.bipush 10, 2) := by decide +kernel
theorem dX7_allOf_50 : decode cX7_allOf 50 = .ok (.idiv, 1) := by decide +kernel
theorem dX7_allOf_51 : decode cX7_allOf 51 = .ok (.goto 4, 3) := by decide +kernel
theorem dX7_allOf_54 : decode cX7_allOf 54 = .ok (.iconst 0, 1) := by decide +kernel
theorem dX7_allOf_55 : decode cX7_allOf 55 = .ok (.iadd, 1) := by decide +kernel
theorem dX7_allOf_56 : decode cX7_allOf 56 = .ok (.istore 4, 2) := by decide +kernel
theorem dX7_allOf_58 : decode cX7_allOf 58 = .ok (.aload_n 0, 1) := by decide +kernel
theorem dX7_allOf_59 : decode cX7_allOf 59 = .ok (.iload_n 1, 1) := by decide +kernel
theorem dX7_allOf_60 : decode cX7_allOf 60 = .ok (.invokevirtual 251, 3) := by decide +kernel
theorem dX7_allOf_63 : decode cX7_allOf 63 = .ok (.ifCond .eq 7, 3) := by decide +kernel
theorem dX7_allOf_66 : decode cX7_allOf 66 = .ok (.iconst 0, 1) := by decide +kernel
theorem dX7_allOf_67 : decode cX7_allOf 67 = .ok (.goto 20, 3) := by decide +kernel
theorem dX7_allOf_70 : decode cX7_allOf 70 = .ok (.aload_n 0, 1) := by decide +kernel
theorem dX7_allOf_71 : decode cX7_allOf 71 = .ok (.iload_n 1, 1) := by decide +kernel
theorem dX7_allOf_72 : decode cX7_allOf 72 = .ok (.invokevirtual 254, 3) := by decide +kernel
theorem dX7_allOf_75 : decode cX7_allOf 75 = .ok (.ifCond .eq 10, 3) := by decide +kernel
theorem dX7_allOf_78 : decode cX7_allOf 78 = .ok (.iload 4, 2) := by decide +kernel
theorem dX7_allOf_80 : decode cX7_allOf 80 = .ok (.iconst 2, 1) := by decide +kernel
theorem dX7_allOf_81 : decode cX7_allOf 81 = .ok (.idiv, 1) := by decide +kernel
theorem dX7_allOf_82 : decode cX7_allOf 82 = .ok (.goto 5, 3) := by decide +kernel
theorem dX7_allOf_85 : decode cX7_allOf 85 = .ok (.iload 4, 2) := by decide +kernel
theorem dX7_allOf_87 : decode cX7_allOf 87 = .ok (.istore 4, 2) := by decide +kernel
theorem dX7_allOf_89 : decode cX7_allOf 89 = .ok (.iload 4, 2) := by decide +kernel
theorem dX7_allOf_91 : decode cX7_allOf 91 = .ok (.iload_n 2, 1) := by decide +kernel
theorem dX7_allOf_92 : decode cX7_allOf 92 = .ok (.ifCond .eq 14, 3) := by decide +kernel
theorem dX7_allOf_95 : decode cX7_allOf 95 = .ok (.aload_n 0, 1) := by decide +kernel
theorem dX7_allOf_96 : decode cX7_allOf 96 = .ok (.getfield 42, 3) := by decide +kernel
theorem dX7_allOf_99 : decode cX7_allOf 99 = .ok (.iload_n 1, 1) := by decide +kernel
theorem dX7_allOf_100 : decode cX7_allOf 100 = .ok (.aaload, 1) := by decide +kernel
theorem dX7_allOf_101 : decode cX7_allOf 101 = .ok (.iconst 5, 1) := by decide +kernel
theorem dX7_allOf_102 : decode cX7_allOf 102 = .ok (.iaload, 1) := by decide +kernel
theorem dX7_allOf_103 : decode cX7_allOf 103 = .ok (.goto 4, 3) := by decide +kernel
theorem dX7_allOf_106 : decode cX7_allOf 106 = .ok (.iconst 0, 1) := by decide +kernel
theorem dX7_allOf_107 : decode cX7_allOf 107 = .ok (.iadd, 1) := by decide +kernel
theorem dX7_allOf_108 : decode cX7_allOf 108 = .ok (.ireturn, 1) := by decide +kernel
theorem dX7_axleLoad_0 : decode cX7_axleLoad 0 = .ok (.aload_n 0, 1) := by decide +kernel
theorem dX7_axleLoad_1 : decode cX7_axleLoad 1 = .ok (.getfield 45, 3) := by decide +kernel
theorem dX7_axleLoad_4 : decode cX7_axleLoad 4 = .ok (.iload_n 1, 1) := by decide +kernel
theorem dX7_axleLoad_5 : decode cX7_axleLoad 5 = .ok (.aaload, 1) := by decide +kernel
theorem dX7_axleLoad_6 : decode cX7_axleLoad 6 = .ok (.iconst 2, 1) := by decide +kernel
theorem dX7_axleLoad_7 : decode cX7_axleLoad 7 = .ok (.iaload, 1) := by decide +kernel
theorem dX7_axleLoad_8 : decode cX7_axleLoad 8 = .ok (.aload_n 0, 1) := by decide +kernel
theorem dX7_axleLoad_9 : decode cX7_axleLoad 9 = .ok (.getfield 51, 3) := by decide +kernel
theorem dX7_axleLoad_12 : decode cX7_axleLoad 12 = .ok (.iconst 0, 1) := by decide +kernel
theorem dX7_axleLoad_13 : decode cX7_axleLoad 13 = .ok (.iaload, 1) := by decide +kernel
theorem dX7_axleLoad_14 : decode cX7_axleLoad 14 = .ok (.iadd, 1) := by decide +kernel
theorem dX7_axleLoad_15 : decode cX7_axleLoad 15 = .ok (.istore_n 3, 1) := by decide +kernel
theorem dX7_axleLoad_16 : decode cX7_axleLoad 16 = .ok (.iconst 0, 1) := by decide +kernel
theorem dX7_axleLoad_17 : decode cX7_axleLoad 17 = .ok (.istore 4, 2) := by decide +kernel
theorem dX7_axleLoad_19 : decode cX7_axleLoad 19 = .ok (.iload 4, 2) := by decide +kernel
theorem dX7_axleLoad_21 : decode cX7_axleLoad 21 = .ok (.aload_n 0, 1) := by decide +kernel
theorem dX7_axleLoad_22 : decode cX7_axleLoad 22 = .ok (.getfield 80, 3) := by decide +kernel
theorem dX7_axleLoad_25 : decode cX7_axleLoad 25 = .ok (.if_icmp .ge 34, 3) := by decide +kernel
theorem dX7_axleLoad_28 : decode cX7_axleLoad 28 = .ok (.iload_n 3, 1) := by decide +kernel
theorem dX7_axleLoad_29 : decode cX7_axleLoad 29 = .ok (.iload_n 2, 1) := by decide +kernel
theorem dX7_axleLoad_30 : decode cX7_axleLoad 30 = .ok (.iload 4, 2) := by decide +kernel
theorem dX7_axleLoad_32 : decode cX7_axleLoad 32 = .ok (.ishr, 1) := by decide +kernel
theorem dX7_axleLoad_33 : decode cX7_axleLoad 33 = .ok (.iconst 1, 1) := by decide +kernel
theorem dX7_axleLoad_34 : decode cX7_axleLoad 34 = .ok (.iand, 1) := by decide +kernel
theorem dX7_axleLoad_35 : decode cX7_axleLoad 35 = .ok (.ifCond .eq 15, 3) := by decide +kernel
theorem dX7_axleLoad_38 : decode cX7_axleLoad 38 = .ok (.aload_n 0, 1) := by decide +kernel
theorem dX7_axleLoad_39 : decode cX7_axleLoad 39 = .ok (.getfield 48, 3) := by decide +kernel
theorem dX7_axleLoad_42 : decode cX7_axleLoad 42 = .ok (.iload 4, 2) := by decide +kernel
theorem dX7_axleLoad_44 : decode cX7_axleLoad 44 = .ok (.aaload, 1) := by decide +kernel
theorem dX7_axleLoad_45 : decode cX7_axleLoad 45 = .ok (.iconst 0, 1) := by decide +kernel
theorem dX7_axleLoad_46 : decode cX7_axleLoad 46 = .ok (.iaload, 1) := by decide +kernel
theorem dX7_axleLoad_47 : decode cX7_axleLoad 47 = .ok (.goto 4, 3) := by decide +kernel
theorem dX7_axleLoad_50 : decode cX7_axleLoad 50 = .ok (.iconst 0, 1) := by decide +kernel
theorem dX7_axleLoad_51 : decode cX7_axleLoad 51 = .ok (.isub, 1) := by decide +kernel
theorem dX7_axleLoad_52 : decode cX7_axleLoad 52 = .ok (.istore_n 3, 1) := by decide +kernel
theorem dX7_axleLoad_53 : decode cX7_axleLoad 53 = .ok (.iinc 4 1, 3) := by decide +kernel
theorem dX7_axleLoad_56 : decode cX7_axleLoad 56 = .ok (.goto (-37), 3) := by decide +kernel
theorem dX7_axleLoad_59 : decode cX7_axleLoad 59 = .ok (.iload_n 3, 1) := by decide +kernel
theorem dX7_axleLoad_60 : decode cX7_axleLoad 60 = .ok (.ifCond .ge 7, 3) := by decide +kernel
theorem dX7_axleLoad_63 : decode cX7_axleLoad 63 = .ok (.iconst 0, 1) := by decide +kernel
theorem dX7_axleLoad_64 : decode cX7_axleLoad 64 = .ok (.goto 4, 3) := by decide +kernel
theorem dX7_axleLoad_67 : decode cX7_axleLoad 67 = .ok (.iload_n 3, 1) := by decide +kernel
theorem dX7_axleLoad_68 : decode cX7_axleLoad 68 = .ok (.istore_n 3, 1) := by decide +kernel
theorem dX7_axleLoad_69 : decode cX7_axleLoad 69 = .ok (.iload_n 3, 1) := by decide +kernel
theorem dX7_axleLoad_70 : decode cX7_axleLoad 70 = .ok (.aload_n 0, 1) := by decide +kernel
theorem dX7_axleLoad_71 : decode cX7_axleLoad 71 = .ok (.getfield 45, 3) := by decide +kernel
theorem dX7_axleLoad_74 : decode cX7_axleLoad 74 = .ok (.iload_n 1, 1) := by decide +kernel
theorem dX7_axleLoad_75 : decode cX7_axleLoad 75 = .ok (.aaload, 1) := by decide +kernel
theorem dX7_axleLoad_76 : decode cX7_axleLoad 76 = .ok (.iconst 0, 1) := by decide +kernel
theorem dX7_axleLoad_77 : decode cX7_axleLoad 77 = .ok (.iaload, 1) := by decide +kernel
theorem dX7_axleLoad_78 : decode cX7_axleLoad 78 = .ok (.iadd, 1) := by decide +kernel
theorem dX7_axleLoad_79 : decode cX7_axleLoad 79 = .ok (.iconst 1, 1) := by decide +kernel
theorem dX7_axleLoad_80 : decode cX7_axleLoad 80 = .ok (.isub, 1) := by decide +kernel
theorem dX7_axleLoad_81 : decode cX7_axleLoad 81 = .ok (.aload_n 0, 1) := by decide +kernel
theorem dX7_axleLoad_82 : decode cX7_axleLoad 82 = .ok (.getfield 45, 3) := by decide +kernel
theorem dX7_axleLoad_85 : decode cX7_axleLoad 85 = .ok (.iload_n 1, 1) := by decide +kernel
theorem dX7_axleLoad_86 : decode cX7_axleLoad 86 = .ok (.aaload, 1) := by decide +kernel
theorem dX7_axleLoad_87 : decode cX7_axleLoad 87 = .ok (.iconst 0, 1) := by decide +kernel
theorem dX7_axleLoad_88 : decode cX7_axleLoad 88 = .ok (.iaload, 1) := by decide +kernel
theorem dX7_axleLoad_89 : decode cX7_axleLoad 89 = .ok (.idiv, 1) := by decide +kernel
theorem dX7_axleLoad_90 : decode cX7_axleLoad 90 = .ok (.ireturn, 1) := by decide +kernel
theorem dX7_axleOf_0 : decode cX7_axleOf 0 = .ok (.aload_n 0, 1) := by decide +kernel
theorem dX7_axleOf_1 : decode cX7_axleOf 1 = .ok (.getfield 42, 3) := by decide +kernel
theorem dX7_axleOf_4 : decode cX7_axleOf 4 = .ok (.iload_n 1, 1) := by decide +kernel
theorem dX7_axleOf_5 : decode cX7_axleOf 5 = .ok (.aaload, 1) := by decide +kernel
theorem dX7_axleOf_6 : decode cX7_axleOf 6 = .ok (.iconst 1, 1) := by decide +kernel
theorem dX7_axleOf_7 : decode cX7_axleOf 7 = .ok (.iaload, 1) := by decide +kernel
theorem dX7_axleOf_8 : decode cX7_axleOf 8 = .ok (.istore_n 2, 1) := by decide +kernel
theorem dX7_axleOf_9 : decode cX7_axleOf 9 = .ok (.aload_n 0, 1) := by decide +kernel
theorem dX7_axleOf_10 : decode cX7_axleOf 10 = .ok (.getfield 42, 3) := by decide +kernel
theorem dX7_axleOf_13 : decode cX7_axleOf 13 = .ok (.iload_n 1, 1) := by decide +kernel
theorem dX7_axleOf_14 : decode cX7_axleOf 14 = .ok (.aaload, 1) := by decide +kernel
theorem dX7_axleOf_15 : decode cX7_axleOf 15 = .ok (.bipush 8, 2) := by decide +kernel
theorem dX7_axleOf_17 : decode cX7_axleOf 17 = .ok (.iaload, 1) := by decide +kernel
theorem dX7_axleOf_18 : decode cX7_axleOf 18 = .ok (.iconst 1, 1) := by decide +kernel
theorem dX7_axleOf_19 : decode cX7_axleOf 19 = .ok (.if_icmp .eq 11, 3) := by decide +kernel
theorem dX7_axleOf_22 : decode cX7_axleOf 22 = .ok (.aload_n 0, 1) := by decide +kernel
theorem dX7_axleOf_23 : decode cX7_axleOf 23 = .ok (.iload_n 1, 1) := by decide +kernel
theorem dX7_axleOf_24 : decode cX7_axleOf 24 = .ok (.invokevirtual 251, 3) := by decide +kernel
theorem dX7_axleOf_27 : decode cX7_axleOf 27 = .ok (.ifCond .eq 5, 3) := by decide +kernel
theorem dX7_axleOf_30 : decode cX7_axleOf 30 = .ok (.iconst 0, 1) := by decide +kernel
theorem dX7_axleOf_31 : decode cX7_axleOf 31 = .ok (.ireturn, 1) := by decide +kernel
theorem dX7_axleOf_32 : decode cX7_axleOf 32 = .ok (.aload_n 0, 1) := by decide +kernel
theorem dX7_axleOf_33 : decode cX7_axleOf 33 = .ok (.getfield 42, 3) := by decide +kernel
theorem dX7_axleOf_36 : decode cX7_axleOf 36 = .ok (.iload_n 1, 1) := by decide +kernel
theorem dX7_axleOf_37 : decode cX7_axleOf 37 = .ok (.aaload, 1) := by decide +kernel
theorem dX7_axleOf_38 : decode cX7_axleOf 38 = .ok (.iconst 3, 1) := by decide +kernel
theorem dX7_axleOf_39 : decode cX7_axleOf 39 = .ok (.iaload, 1) := by decide +kernel
theorem dX7_axleOf_40 : decode cX7_axleOf 40 = .ok (.iload_n 2, 1) := by decide +kernel
theorem dX7_axleOf_41 : decode cX7_axleOf 41 = .ok (.iconst 2, 1) := by decide +kernel
theorem dX7_axleOf_42 : decode cX7_axleOf 42 = .ok (.if_icmp .ne 7, 3) := by decide +kernel
theorem dX7_axleOf_45 : decode cX7_axleOf 45 = .ok (.iconst 5, 1) := by decide +kernel
theorem dX7_axleOf_46 : decode cX7_axleOf 46 = .ok (.goto 4, 3) := by decide +kernel
theorem dX7_axleOf_49 : decode cX7_axleOf 49 = .ok (.iconst 0, 1) := by decide +kernel
theorem dX7_axleOf_50 : decode cX7_axleOf 50 = .ok (.iadd, 1) := by decide +kernel
theorem dX7_axleOf_51 : decode cX7_axleOf 51 = .ok (.istore_n 3, 1) := by decide +kernel
theorem dX7_axleOf_52 : decode cX7_axleOf 52 = .ok (.aload_n 0, 1) := by decide +kernel
theorem dX7_axleOf_53 : decode cX7_axleOf 53 = .ok (.iload_n 1, 1) := by decide +kernel
theorem dX7_axleOf_54 : decode cX7_axleOf 54 = .ok (.invokevirtual 254, 3) := by decide +kernel
theorem dX7_axleOf_57 : decode cX7_axleOf 57 = .ok (.ifCond .eq 9, 3) := by decide +kernel
theorem dX7_axleOf_60 : decode cX7_axleOf 60 = .ok (.iload_n 3, 1) := by decide +kernel
theorem dX7_axleOf_61 : decode cX7_axleOf 61 = .ok (.iconst 2, 1) := by decide +kernel
theorem dX7_axleOf_62 : decode cX7_axleOf 62 = .ok (.idiv, 1) := by decide +kernel
theorem dX7_axleOf_63 : decode cX7_axleOf 63 = .ok (.goto 4, 3) := by decide +kernel
theorem dX7_axleOf_66 : decode cX7_axleOf 66 = .ok (.iload_n 3, 1) := by decide +kernel
theorem dX7_axleOf_67 : decode cX7_axleOf 67 = .ok (.ireturn, 1) := by decide +kernel
theorem dX7_bits_0 : decode cX7_bits 0 = .ok (.iconst 0, 1) := by decide +kernel
theorem dX7_bits_1 : decode cX7_bits 1 = .ok (.istore_n 1, 1) := by decide +kernel
theorem dX7_bits_2 : decode cX7_bits 2 = .ok (.iconst 0, 1) := by decide +kernel
theorem dX7_bits_3 : decode cX7_bits 3 = .ok (.istore_n 2, 1) := by decide +kernel
theorem dX7_bits_4 : decode cX7_bits 4 = .ok (.iload_n 2, 1) := by decide +kernel
theorem dX7_bits_5 : decode cX7_bits 5 = .ok (.bipush 16, 2) := by decide +kernel
theorem dX7_bits_7 : decode cX7_bits 7 = .ok (.if_icmp .ge 17, 3) := by decide +kernel
theorem dX7_bits_10 : decode cX7_bits 10 = .ok (.iload_n 1, 1) := by decide +kernel
theorem dX7_bits_11 : decode cX7_bits 11 = .ok (.iload_n 0, 1) := by decide +kernel
theorem dX7_bits_12 : decode cX7_bits 12 = .ok (.iload_n 2, 1) := by decide +kernel
theorem dX7_bits_13 : decode cX7_bits 13 = .ok (.ishr, 1) := by decide +kernel
theorem dX7_bits_14 : decode cX7_bits 14 = .ok (.iconst 1, 1) := by decide +kernel
theorem dX7_bits_15 : decode cX7_bits 15 = .ok (.iand, 1) := by decide +kernel
theorem dX7_bits_16 : decode cX7_bits 16 = .ok (.iadd, 1) := by decide +kernel
theorem dX7_bits_17 : decode cX7_bits 17 = .ok (.istore_n 1, 1) := by decide +kernel
theorem dX7_bits_18 : decode cX7_bits 18 = .ok (.iinc 2 1, 3) := by decide +kernel
theorem dX7_bits_21 : decode cX7_bits 21 = .ok (.goto (-17), 3) := by decide +kernel
theorem dX7_bits_24 : decode cX7_bits 24 = .ok (.iload_n 1, 1) := by decide +kernel
theorem dX7_bits_25 : decode cX7_bits 25 = .ok (.ireturn, 1) := by decide +kernel
theorem dX7_cheapestOf_0 : decode cX7_cheapestOf 0 = .ok (.aload_n 0, 1) := by decide +kernel
theorem dX7_cheapestOf_1 : decode cX7_cheapestOf 1 = .ok (.iload_n 1, 1) := by decide +kernel
theorem dX7_cheapestOf_2 : decode cX7_cheapestOf 2 = .ok (.iload_n 2, 1) := by decide +kernel
theorem dX7_cheapestOf_3 : decode cX7_cheapestOf 3 = .ok (.iload 4, 2) := by decide +kernel
theorem dX7_cheapestOf_5 : decode cX7_cheapestOf 5 = .ok (.iload 5, 2) := by decide +kernel
theorem dX7_cheapestOf_7 : decode cX7_cheapestOf 7 = .ok (.invokevirtual 294, 3) := by decide +kernel
theorem dX7_cheapestOf_10 : decode cX7_cheapestOf 10 = .ok (.aload_n 0, 1) := by decide +kernel
theorem dX7_cheapestOf_11 : decode cX7_cheapestOf 11 = .ok (.getfield 57, 3) := by decide +kernel
theorem dX7_cheapestOf_14 : decode cX7_cheapestOf 14 = .ok (.iload_n 3, 1) := by decide +kernel
theorem dX7_cheapestOf_15 : decode cX7_cheapestOf 15 = .ok (.laload, 1) := by decide +kernel
theorem dX7_cheapestOf_16 : decode cX7_cheapestOf 16 = .ok (.ldc2_w 292, 3) := by decide +kernel
theorem dX7_cheapestOf_19 : decode cX7_cheapestOf 19 = .ok (.lcmp, 1) := by decide +kernel
theorem dX7_cheapestOf_20 : decode cX7_cheapestOf 20 = .ok (.ifCond .lt 7, 3) := by decide +kernel
theorem dX7_cheapestOf_23 : decode cX7_cheapestOf 23 = .ok (.iconst (-1), 1) := by decide +kernel
theorem dX7_cheapestOf_24 : decode cX7_cheapestOf 24 = .ok (.goto 19, 3) := by decide +kernel
theorem dX7_cheapestOf_27 : decode cX7_cheapestOf 27 = .ok (.aload_n 0, 1) := by decide +kernel
theorem dX7_cheapestOf_28 : decode cX7_cheapestOf 28 = .ok (.getfield 57, 3) := by decide +kernel
theorem dX7_cheapestOf_31 : decode cX7_cheapestOf 31 = .ok (.iload_n 3, 1) := by decide +kernel
theorem dX7_cheapestOf_32 : decode cX7_cheapestOf 32 = .ok (.laload, 1) := by decide +kernel
theorem dX7_cheapestOf_33 : decode cX7_cheapestOf 33 = .ok (.l2i, 1) := by decide +kernel
theorem dX7_cheapestOf_34 : decode cX7_cheapestOf 34 = .ok (.iload 5, 2) := by decide +kernel
theorem dX7_cheapestOf_36 : decode cX7_cheapestOf 36 = .ok (.aload_n 0, 1) := by decide +kernel
theorem dX7_cheapestOf_37 : decode cX7_cheapestOf 37 = .ok (.iload_n 2, 1) := by decide +kernel
theorem dX7_cheapestOf_38 : decode cX7_cheapestOf 38 = .ok (.invokevirtual 298, 3) := by decide +kernel
theorem dX7_cheapestOf_41 : decode cX7_cheapestOf 41 = .ok (.imul, 1) := by decide +kernel
theorem dX7_cheapestOf_42 : decode cX7_cheapestOf 42 = .ok (.iadd, 1) := by decide +kernel
theorem dX7_cheapestOf_43 : decode cX7_cheapestOf 43 = .ok (.ireturn, 1) := by decide +kernel
theorem dX7_coinOf_0 : decode cX7_coinOf 0 = .ok (.iload 4, 2) := by decide +kernel
theorem dX7_coinOf_2 : decode cX7_coinOf 2 = .ok (.aload_n 0, 1) := by decide +kernel
theorem dX7_coinOf_3 : decode cX7_coinOf 3 = .ok (.getfield 51, 3) := by decide +kernel
theorem dX7_coinOf_6 : decode cX7_coinOf 6 = .ok (.iconst 1, 1) := by decide +kernel
theorem dX7_coinOf_7 : decode cX7_coinOf 7 = .ok (.iaload, 1) := by decide +kernel
theorem dX7_coinOf_8 : decode cX7_coinOf 8 = .ok (.imul, 1) := by decide +kernel
theorem dX7_coinOf_9 : decode cX7_coinOf 9 = .ok (.aload_n 0, 1) := by decide +kernel
theorem dX7_coinOf_10 : decode cX7_coinOf 10 = .ok (.getfield 39, 3) := by decide +kernel
theorem dX7_coinOf_13 : decode cX7_coinOf 13 = .ok (.iload_n 3, 1) := by decide +kernel
theorem dX7_coinOf_14 : decode cX7_coinOf 14 = .ok (.aaload, 1) := by decide +kernel
theorem dX7_coinOf_15 : decode cX7_coinOf 15 = .ok (.iconst 2, 1) := by decide +kernel
theorem dX7_coinOf_16 : decode cX7_coinOf 16 = .ok (.iaload, 1) := by decide +kernel
theorem dX7_coinOf_17 : decode cX7_coinOf 17 = .ok (.imul, 1) := by decide +kernel
theorem dX7_coinOf_18 : decode cX7_coinOf 18 = .ok (.aload_n 0, 1) := by decide +kernel
theorem dX7_coinOf_19 : decode cX7_coinOf 19 = .ok (.iload_n 1, 1) := by decide +kernel
theorem dX7_coinOf_20 : decode cX7_coinOf 20 = .ok (.iload_n 2, 1) := by decide +kernel
theorem dX7_coinOf_21 : decode cX7_coinOf 21 = .ok (.iload_n 3, 1) := by decide +kernel
theorem dX7_coinOf_22 : decode cX7_coinOf 22 = .ok (.invokevirtual 274, 3) := by decide +kernel
theorem dX7_coinOf_25 : decode cX7_coinOf 25 = .ok (.imul, 1) := by decide +kernel
theorem dX7_coinOf_26 : decode cX7_coinOf 26 = .ok (.aload_n 0, 1) := by decide +kernel
theorem dX7_coinOf_27 : decode cX7_coinOf 27 = .ok (.iload_n 1, 1) := by decide +kernel
theorem dX7_coinOf_28 : decode cX7_coinOf 28 = .ok (.iload_n 2, 1) := by decide +kernel
theorem dX7_coinOf_29 : decode cX7_coinOf 29 = .ok (.iload_n 3, 1) := by decide +kernel
theorem dX7_coinOf_30 : decode cX7_coinOf 30 = .ok (.iconst 1, 1) := by decide +kernel
theorem dX7_coinOf_31 : decode cX7_coinOf 31 = .ok (.invokevirtual 277, 3) := by decide +kernel
theorem dX7_coinOf_34 : decode cX7_coinOf 34 = .ok (.iadd, 1) := by decide +kernel
theorem dX7_coinOf_35 : decode cX7_coinOf 35 = .ok (.ireturn, 1) := by decide +kernel
theorem dX7_daysOf_0 : decode cX7_daysOf 0 = .ok (.aload_n 0, 1) := by decide +kernel
theorem dX7_daysOf_1 : decode cX7_daysOf 1 = .ok (.getfield 39, 3) := by decide +kernel
theorem dX7_daysOf_4 : decode cX7_daysOf 4 = .ok (.iload_n 3, 1) := by decide +kernel
theorem dX7_daysOf_5 : decode cX7_daysOf 5 = .ok (.aaload, 1) := by decide +kernel
theorem dX7_daysOf_6 : decode cX7_daysOf 6 = .ok (.iconst 2, 1) := by decide +kernel
theorem dX7_daysOf_7 : decode cX7_daysOf 7 = .ok (.iaload, 1) := by decide +kernel
theorem dX7_daysOf_8 : decode cX7_daysOf 8 = .ok (.bipush 9, 2) := by decide +kernel
theorem dX7_daysOf_10 : decode cX7_daysOf 10 = .ok (.iadd, 1) := by decide +kernel
theorem dX7_daysOf_11 : decode cX7_daysOf 11 = .ok (.bipush 10, 2) := by decide +kernel
theorem dX7_daysOf_13 : decode cX7_daysOf 13 = .ok (.idiv, 1) := by decide +kernel
theorem dX7_daysOf_14 : decode cX7_daysOf 14 = .ok (.iconst 3, 1) := by decide +kernel
theorem dX7_daysOf_15 : decode cX7_daysOf 15 = .ok (.aload_n 0, 1) := by decide +kernel
theorem dX7_daysOf_16 : decode cX7_daysOf 16 = .ok (.iload_n 1, 1) := by decide +kernel
theorem dX7_daysOf_17 : decode cX7_daysOf 17 = .ok (.iload_n 2, 1) := by decide +kernel
theorem dX7_daysOf_18 : decode cX7_daysOf 18 = .ok (.iload_n 3, 1) := by decide +kernel
theorem dX7_daysOf_19 : decode cX7_daysOf 19 = .ok (.iconst 0, 1) := by decide +kernel
theorem dX7_daysOf_20 : decode cX7_daysOf 20 = .ok (.invokevirtual 277, 3) := by decide +kernel
theorem dX7_daysOf_23 : decode cX7_daysOf 23 = .ok (.imul, 1) := by decide +kernel
theorem dX7_daysOf_24 : decode cX7_daysOf 24 = .ok (.iadd, 1) := by decide +kernel
theorem dX7_daysOf_25 : decode cX7_daysOf 25 = .ok (.ireturn, 1) := by decide +kernel
theorem dX7_enginesOf_0 : decode cX7_enginesOf 0 = .ok (.iconst 1, 1) := by decide +kernel
theorem dX7_enginesOf_1 : decode cX7_enginesOf 1 = .ok (.aload_n 0, 1) := by decide +kernel
theorem dX7_enginesOf_2 : decode cX7_enginesOf 2 = .ok (.getfield 39, 3) := by decide +kernel
theorem dX7_enginesOf_5 : decode cX7_enginesOf 5 = .ok (.iload_n 3, 1) := by decide +kernel
theorem dX7_enginesOf_6 : decode cX7_enginesOf 6 = .ok (.aaload, 1) := by decide +kernel
theorem dX7_enginesOf_7 : decode cX7_enginesOf 7 = .ok (.iconst 3, 1) := by decide +kernel
theorem dX7_enginesOf_8 : decode cX7_enginesOf 8 = .ok (.iaload, 1) := by decide +kernel
theorem dX7_enginesOf_9 : decode cX7_enginesOf 9 = .ok (.aload_n 0, 1) := by decide +kernel
theorem dX7_enginesOf_10 : decode cX7_enginesOf 10 = .ok (.iload_n 1, 1) := by decide +kernel
theorem dX7_enginesOf_11 : decode cX7_enginesOf 11 = .ok (.iload_n 2, 1) := by decide +kernel
theorem dX7_enginesOf_12 : decode cX7_enginesOf 12 = .ok (.invokevirtual 263, 3) := by decide +kernel
theorem dX7_enginesOf_15 : decode cX7_enginesOf 15 = .ok (.imul, 1) := by decide +kernel
theorem dX7_enginesOf_16 : decode cX7_enginesOf 16 = .ok (.bipush 100, 2) := by decide +kernel
theorem dX7_enginesOf_18 : decode cX7_enginesOf 18 = .ok (.idiv, 1) := by decide +kernel
theorem dX7_enginesOf_19 : decode cX7_enginesOf 19 = .ok (.iadd, 1) := by decide +kernel
theorem dX7_enginesOf_20 : decode cX7_enginesOf 20 = .ok (.ireturn, 1) := by decide +kernel
theorem dX7_findFar_0 : decode cX7_findFar 0 = .ok (.iconst 0, 1) := by decide +kernel
theorem dX7_findFar_1 : decode cX7_findFar 1 = .ok (.istore 5, 2) := by decide +kernel
theorem dX7_findFar_3 : decode cX7_findFar 3 = .ok (.iload 5, 2) := by decide +kernel
theorem dX7_findFar_5 : decode cX7_findFar 5 = .ok (.bipush 16, 2) := by decide +kernel
theorem dX7_findFar_7 : decode cX7_findFar 7 = .ok (.if_icmp .ge 29, 3) := by decide +kernel
theorem dX7_findFar_10 : decode cX7_findFar 10 = .ok (.aload_n 0, 1) := by decide +kernel
theorem dX7_findFar_11 : decode cX7_findFar 11 = .ok (.getfield 57, 3) := by decide +kernel
theorem dX7_findFar_14 : decode cX7_findFar 14 = .ok (.iload 5, 2) := by decide +kernel
theorem dX7_findFar_16 : decode cX7_findFar 16 = .ok (.iload 5, 2) := by decide +kernel
theorem dX7_findFar_18 : decode cX7_findFar 18 = .ok (.iload_n 3, 1) := by decide +kernel
theorem dX7_findFar_19 : decode cX7_findFar 19 = .ok (.if_icmp .ne 7, 3) := by decide +kernel
theorem dX7_findFar_22 : decode cX7_findFar 22 = .ok (.lconst 0, 1) := by decide +kernel
theorem dX7_findFar_23 : decode cX7_findFar 23 = .ok (.goto 6, 3) := by decide +kernel
theorem dX7_findFar_26 : decode cX7_findFar 26 = .ok (.ldc2_w 292, 3) := by decide +kernel
theorem dX7_findFar_29 : decode cX7_findFar 29 = .ok (.lastore, 1) := by decide +kernel
theorem dX7_findFar_30 : decode cX7_findFar 30 = .ok (.iinc 5 1, 3) := by decide +kernel
theorem dX7_findFar_33 : decode cX7_findFar 33 = .ok (.goto (-30), 3) := by decide +kernel
theorem dX7_findFar_36 : decode cX7_findFar 36 = .ok (.iconst 0, 1) := by decide +kernel
theorem dX7_findFar_37 : decode cX7_findFar 37 = .ok (.istore 5, 2) := by decide +kernel
theorem dX7_findFar_39 : decode cX7_findFar 39 = .ok (.iload 5, 2) := by decide +kernel
theorem dX7_findFar_41 : decode cX7_findFar 41 = .ok (.bipush 16, 2) := by decide +kernel
theorem dX7_findFar_43 : decode cX7_findFar 43 = .ok (.if_icmp .ge 188, 3) := by decide +kernel
theorem dX7_findFar_46 : decode cX7_findFar 46 = .ok (.iconst 0, 1) := by decide +kernel
theorem dX7_findFar_47 : decode cX7_findFar 47 = .ok (.istore 6, 2) := by decide +kernel
theorem dX7_findFar_49 : decode cX7_findFar 49 = .ok (.iload 6, 2) := by decide +kernel
theorem dX7_findFar_51 : decode cX7_findFar 51 = .ok (.aload_n 0, 1) := by decide +kernel
theorem dX7_findFar_52 : decode cX7_findFar 52 = .ok (.getfield 66, 3) := by decide +kernel
theorem dX7_findFar_55 : decode cX7_findFar 55 = .ok (.if_icmp .ge 170, 3) := by decide +kernel
theorem dX7_findFar_58 : decode cX7_findFar 58 = .ok (.aload_n 0, 1) := by decide +kernel
theorem dX7_findFar_59 : decode cX7_findFar 59 = .ok (.iload_n 1, 1) := by decide +kernel
theorem dX7_findFar_60 : decode cX7_findFar 60 = .ok (.iload_n 2, 1) := by decide +kernel
theorem dX7_findFar_61 : decode cX7_findFar 61 = .ok (.iload 6, 2) := by decide +kernel
theorem dX7_findFar_63 : decode cX7_findFar 63 = .ok (.invokevirtual 281, 3) := by decide +kernel
theorem dX7_findFar_66 : decode cX7_findFar 66 = .ok (.ifCond .eq 153, 3) := by decide +kernel
theorem dX7_findFar_69 : decode cX7_findFar 69 = .ok (.iload 4, 2) := by decide +kernel
theorem dX7_findFar_71 : decode cX7_findFar 71 = .ok (.ifCond .ne 14, 3) := by decide +kernel
theorem dX7_findFar_74 : decode cX7_findFar 74 = .ok (.aload_n 0, 1) := by decide +kernel
theorem dX7_findFar_75 : decode cX7_findFar 75 = .ok (.iload_n 1, 1) := by decide +kernel
theorem dX7_findFar_76 : decode cX7_findFar 76 = .ok (.iload_n 2, 1) := by decide +kernel
theorem dX7_findFar_77 : decode cX7_findFar 77 = .ok (.iload 6, 2) := by decide +kernel
theorem dX7_findFar_79 : decode cX7_findFar 79 = .ok (.invokevirtual 289, 3) := by decide +kernel
theorem dX7_findFar_82 : decode cX7_findFar 82 = .ok (.goto 13, 3) := by decide +kernel
theorem dX7_findFar_85 : decode cX7_findFar 85 = .ok (.aload_n 0, 1) := by decide +kernel
theorem dX7_findFar_86 : decode cX7_findFar 86 = .ok (.iload_n 1, 1) := by decide +kernel
theorem dX7_findFar_87 : decode cX7_findFar 87 = .ok (.iload_n 2, 1) := by decide +kernel
theorem dX7_findFar_88 : decode cX7_findFar 88 = .ok (.iload 6, 2) := by decide +kernel
theorem dX7_findFar_90 : decode cX7_findFar 90 = .ok (.iload 4, 2) := by decide +kernel
theorem dX7_findFar_92 : decode cX7_findFar 92 = .ok (.invokevirtual 285, 3) := by decide +kernel
theorem dX7_findFar_95 : decode cX7_findFar 95 = .ok (.istore 7, 2) := by decide +kernel
theorem dX7_findFar_97 : decode cX7_findFar 97 = .ok (.aload_n 0, 1) := by decide +kernel
theorem dX7_findFar_98 : decode cX7_findFar 98 = .ok (.getfield 39, 3) := by decide +kernel
theorem dX7_findFar_101 : decode cX7_findFar 101 = .ok (.iload 6, 2) := by decide +kernel
theorem dX7_findFar_103 : decode cX7_findFar 103 = .ok (.aaload, 1) := by decide +kernel
theorem dX7_findFar_104 : decode cX7_findFar 104 = .ok (.iconst 0, 1) := by decide +kernel
theorem dX7_findFar_105 : decode cX7_findFar 105 = .ok (.iaload, 1) := by decide +kernel
theorem dX7_findFar_106 : decode cX7_findFar 106 = .ok (.istore 8, 2) := by decide +kernel
theorem dX7_findFar_108 : decode cX7_findFar 108 = .ok (.aload_n 0, 1) := by decide +kernel
theorem dX7_findFar_109 : decode cX7_findFar 109 = .ok (.getfield 39, 3) := by decide +kernel
theorem dX7_findFar_112 : decode cX7_findFar 112 = .ok (.iload 6, 2) := by decide +kernel
theorem dX7_findFar_114 : decode cX7_findFar 114 = .ok (.aaload, 1) := by decide +kernel
theorem dX7_findFar_115 : decode cX7_findFar 115 = .ok (.iconst 1, 1) := by decide +kernel
theorem dX7_findFar_116 : decode cX7_findFar 116 = .ok (.iaload, 1) := by decide +kernel
theorem dX7_findFar_117 : decode cX7_findFar 117 = .ok (.istore 9, 2) := by decide +kernel
theorem dX7_findFar_119 : decode cX7_findFar 119 = .ok (.aload_n 0, 1) := by decide +kernel
theorem dX7_findFar_120 : decode cX7_findFar 120 = .ok (.getfield 57, 3) := by decide +kernel
theorem dX7_findFar_123 : decode cX7_findFar 123 = .ok (.iload 8, 2) := by decide +kernel
theorem dX7_findFar_125 : decode cX7_findFar 125 = .ok (.aload_n 0, 1) := by decide +kernel
theorem dX7_findFar_126 : decode cX7_findFar 126 = .ok (.getfield 57, 3) := by decide +kernel
theorem dX7_findFar_129 : decode cX7_findFar 129 = .ok (.iload 9, 2) := by decide +kernel
theorem dX7_findFar_131 : decode cX7_findFar 131 = .ok (.laload, 1) := by decide +kernel
theorem dX7_findFar_132 : decode cX7_findFar 132 = .ok (.iload 7, 2) := by decide +kernel
theorem dX7_findFar_134 : decode cX7_findFar 134 = .ok (.i2l, 1) := by decide +kernel
theorem dX7_findFar_135 : decode cX7_findFar 135 = .ok (.ladd, 1) := by decide +kernel
theorem dX7_findFar_136 : decode cX7_findFar 136 = .ok (.aload_n 0, 1) := by decide +kernel
theorem dX7_findFar_137 : decode cX7_findFar 137 = .ok (.getfield 57, 3) := by decide +kernel
theorem dX7_findFar_140 : decode cX7_findFar 140 = .ok (.iload 8, 2) := by decide +kernel
theorem dX7_findFar_142 : decode cX7_findFar 142 = .ok (.laload, 1) := by decide +kernel
theorem dX7_findFar_143 : decode cX7_findFar 143 = .ok (.lcmp, 1) := by decide +kernel
theorem dX7_findFar_144 : decode cX7_findFar 144 = .ok (.ifCond .ge 17, 3) := by decide +kernel
theorem dX7_findFar_147 : decode cX7_findFar 147 = .ok (.aload_n 0, 1) := by decide +kernel
theorem dX7_findFar_148 : decode cX7_findFar 148 = .ok (.getfield 57, 3) := by decide +kernel
theorem dX7_findFar_151 : decode cX7_findFar 151 = .ok (.iload 9, 2) := by decide +kernel
theorem dX7_findFar_153 : decode cX7_findFar 153 = .ok (.laload, 1) := by decide +kernel
theorem dX7_findFar_154 : decode cX7_findFar 154 = .ok (.iload 7, 2) := by decide +kernel
theorem dX7_findFar_156 : decode cX7_findFar 156 = .ok (.i2l, 1) := by decide +kernel
theorem dX7_findFar_157 : decode cX7_findFar 157 = .ok (.ladd, 1) := by decide +kernel
theorem dX7_findFar_158 : decode cX7_findFar 158 = .ok (.goto 10, 3) := by decide +kernel
theorem dX7_findFar_161 : decode cX7_findFar 161 = .ok (.aload_n 0, 1) := by decide +kernel
theorem dX7_findFar_162 : decode cX7_findFar 162 = .ok (.getfield 57, 3) := by decide +kernel
theorem dX7_findFar_165 : decode cX7_findFar 165 = .ok (.iload 8, 2) := by decide +kernel
theorem dX7_findFar_167 : decode cX7_findFar 167 = .ok (.laload, 1) := by decide +kernel
theorem dX7_findFar_168 : decode cX7_findFar 168 = .ok (.lastore, 1) := by decide +kernel
theorem dX7_findFar_169 : decode cX7_findFar 169 = .ok (.aload_n 0, 1) := by decide +kernel
theorem dX7_findFar_170 : decode cX7_findFar 170 = .ok (.getfield 57, 3) := by decide +kernel
theorem dX7_findFar_173 : decode cX7_findFar 173 = .ok (.iload 9, 2) := by decide +kernel
theorem dX7_findFar_175 : decode cX7_findFar 175 = .ok (.aload_n 0, 1) := by decide +kernel
theorem dX7_findFar_176 : decode cX7_findFar 176 = .ok (.getfield 57, 3) := by decide +kernel
theorem dX7_findFar_179 : decode cX7_findFar 179 = .ok (.iload 8, 2) := by decide +kernel
theorem dX7_findFar_181 : decode cX7_findFar 181 = .ok (.laload, 1) := by decide +kernel
theorem dX7_findFar_182 : decode cX7_findFar 182 = .ok (.iload 7, 2) := by decide +kernel
theorem dX7_findFar_184 : decode cX7_findFar 184 = .ok (.i2l, 1) := by decide +kernel
theorem dX7_findFar_185 : decode cX7_findFar 185 = .ok (.ladd, 1) := by decide +kernel
theorem dX7_findFar_186 : decode cX7_findFar 186 = .ok (.aload_n 0, 1) := by decide +kernel
theorem dX7_findFar_187 : decode cX7_findFar 187 = .ok (.getfield 57, 3) := by decide +kernel
theorem dX7_findFar_190 : decode cX7_findFar 190 = .ok (.iload 9, 2) := by decide +kernel
theorem dX7_findFar_192 : decode cX7_findFar 192 = .ok (.laload, 1) := by decide +kernel
theorem dX7_findFar_193 : decode cX7_findFar 193 = .ok (.lcmp, 1) := by decide +kernel
theorem dX7_findFar_194 : decode cX7_findFar 194 = .ok (.ifCond .ge 17, 3) := by decide +kernel
theorem dX7_findFar_197 : decode cX7_findFar 197 = .ok (.aload_n 0, 1) := by decide +kernel
theorem dX7_findFar_198 : decode cX7_findFar 198 = .ok (.getfield 57, 3) := by decide +kernel
theorem dX7_findFar_201 : decode cX7_findFar 201 = .ok (.iload 8, 2) := by decide +kernel
theorem dX7_findFar_203 : decode cX7_findFar 203 = .ok (.laload, 1) := by decide +kernel
theorem dX7_findFar_204 : decode cX7_findFar 204 = .ok (.iload 7, 2) := by decide +kernel
theorem dX7_findFar_206 : decode cX7_findFar 206 = .ok (.i2l, 1) := by decide +kernel
theorem dX7_findFar_207 : decode cX7_findFar 207 = .ok (.ladd, 1) := by decide +kernel
theorem dX7_findFar_208 : decode cX7_findFar 208 = .ok (.goto 10, 3) := by decide +kernel
theorem dX7_findFar_211 : decode cX7_findFar 211 = .ok (.aload_n 0, 1) := by decide +kernel
theorem dX7_findFar_212 : decode cX7_findFar 212 = .ok (.getfield 57, 3) := by decide +kernel
theorem dX7_findFar_215 : decode cX7_findFar 215 = .ok (.iload 9, 2) := by decide +kernel
theorem dX7_findFar_217 : decode cX7_findFar 217 = .ok (.laload, 1) := by decide +kernel
theorem dX7_findFar_218 : decode cX7_findFar 218 = .ok (.lastore, 1) := by decide +kernel
theorem dX7_findFar_219 : decode cX7_findFar 219 = .ok (.iinc 6 1, 3) := by decide +kernel
theorem dX7_findFar_222 : decode cX7_findFar 222 = .ok (.goto (-173), 3) := by decide +kernel
theorem dX7_findFar_225 : decode cX7_findFar 225 = .ok (.iinc 5 1, 3) := by decide +kernel
theorem dX7_findFar_228 : decode cX7_findFar 228 = .ok (.goto (-189), 3) := by decide +kernel
theorem dX7_findFar_231 : decode cX7_findFar 231 = .ok (.return_, 1) := by decide +kernel
theorem dX7_fit_0 : decode cX7_fit 0 = .ok (.iload_n 0, 1) := by decide +kernel
theorem dX7_fit_1 : decode cX7_fit 1 = .ok (.tableswitch 47 0 3 #[31, 36, 41, 45], 31) := by decide +kernel
theorem dX7_fit_32 : decode cX7_fit 32 = .ok (.lload_n 1, 1) := by decide +kernel
theorem dX7_fit_33 : decode cX7_fit 33 = .ok (.l2i, 1) := by decide +kernel
theorem dX7_fit_34 : decode cX7_fit 34 = .ok (.i2b, 1) := by decide +kernel
theorem dX7_fit_35 : decode cX7_fit 35 = .ok (.i2l, 1) := by decide +kernel
theorem dX7_fit_36 : decode cX7_fit 36 = .ok (.lreturn, 1) := by decide +kernel
theorem dX7_fit_37 : decode cX7_fit 37 = .ok (.lload_n 1, 1) := by decide +kernel
theorem dX7_fit_38 : decode cX7_fit 38 = .ok (.l2i, 1) := by decide +kernel
theorem dX7_fit_39 : decode cX7_fit 39 = .ok (.i2s, 1) := by decide +kernel
theorem dX7_fit_40 : decode cX7_fit 40 = .ok (.i2l, 1) := by decide +kernel
theorem dX7_fit_41 : decode cX7_fit 41 = .ok (.lreturn, 1) := by decide +kernel
theorem dX7_fit_42 : decode cX7_fit 42 = .ok (.lload_n 1, 1) := by decide +kernel
theorem dX7_fit_43 : decode cX7_fit 43 = .ok (.l2i, 1) := by decide +kernel
theorem dX7_fit_44 : decode cX7_fit 44 = .ok (.i2l, 1) := by decide +kernel
theorem dX7_fit_45 : decode cX7_fit 45 = .ok (.lreturn, 1) := by decide +kernel
theorem dX7_fit_46 : decode cX7_fit 46 = .ok (.lload_n 1, 1) := by decide +kernel
theorem dX7_fit_47 : decode cX7_fit 47 = .ok (.lreturn, 1) := by decide +kernel
theorem dX7_fit_48 : decode cX7_fit 48 = .ok (.lload_n 1, 1) := by decide +kernel
theorem dX7_fit_49 : decode cX7_fit 49 = .ok (.lconst 0, 1) := by decide +kernel
theorem dX7_fit_50 : decode cX7_fit 50 = .ok (.lcmp, 1) := by decide +kernel
theorem dX7_fit_51 : decode cX7_fit 51 = .ok (.ifCond .eq 7, 3) := by decide +kernel
theorem dX7_fit_54 : decode cX7_fit 54 = .ok (.lconst 1, 1) := by decide +kernel
theorem dX7_fit_55 : decode cX7_fit 55 = .ok (.goto 4, 3) := by decide +kernel
theorem dX7_fit_58 : decode cX7_fit 58 = .ok (.lconst 0, 1) := by decide +kernel
theorem dX7_fit_59 : decode cX7_fit 59 = .ok (.lreturn, 1) := by decide +kernel
theorem dX7_goesOf_0 : decode cX7_goesOf 0 = .ok (.aload_n 0, 1) := by decide +kernel
theorem dX7_goesOf_1 : decode cX7_goesOf 1 = .ok (.getfield 39, 3) := by decide +kernel
theorem dX7_goesOf_4 : decode cX7_goesOf 4 = .ok (.iload_n 3, 1) := by decide +kernel
theorem dX7_goesOf_5 : decode cX7_goesOf 5 = .ok (.aaload, 1) := by decide +kernel
theorem dX7_goesOf_6 : decode cX7_goesOf 6 = .ok (.bipush 6, 2) := by decide +kernel
theorem dX7_goesOf_8 : decode cX7_goesOf 8 = .ok (.iaload, 1) := by decide +kernel
theorem dX7_goesOf_9 : decode cX7_goesOf 9 = .ok (.iconst 1, 1) := by decide +kernel
theorem dX7_goesOf_10 : decode cX7_goesOf 10 = .ok (.if_icmp .eq 19, 3) := by decide +kernel
theorem dX7_goesOf_13 : decode cX7_goesOf 13 = .ok (.aload_n 0, 1) := by decide +kernel
theorem dX7_goesOf_14 : decode cX7_goesOf 14 = .ok (.getfield 39, 3) := by decide +kernel
theorem dX7_goesOf_17 : decode cX7_goesOf 17 = .ok (.iload_n 3, 1) := by decide +kernel
theorem dX7_goesOf_18 : decode cX7_goesOf 18 = .ok (.aaload, 1) := by decide +kernel
theorem dX7_goesOf_19 : decode cX7_goesOf 19 = .ok (.iconst 4, 1) := by decide +kernel
theorem dX7_goesOf_20 : decode cX7_goesOf 20 = .ok (.iaload, 1) := by decide +kernel
theorem dX7_goesOf_21 : decode cX7_goesOf 21 = .ok (.aload_n 0, 1) := by decide +kernel
theorem dX7_goesOf_22 : decode cX7_goesOf 22 = .ok (.iload_n 1, 1) := by decide +kernel
theorem dX7_goesOf_23 : decode cX7_goesOf 23 = .ok (.invokevirtual 257, 3) := by decide +kernel
theorem dX7_goesOf_26 : decode cX7_goesOf 26 = .ok (.if_icmp .ge 5, 3) := by decide +kernel
theorem dX7_goesOf_29 : decode cX7_goesOf 29 = .ok (.iconst 0, 1) := by decide +kernel
theorem dX7_goesOf_30 : decode cX7_goesOf 30 = .ok (.ireturn, 1) := by decide +kernel
theorem dX7_goesOf_31 : decode cX7_goesOf 31 = .ok (.iconst 0, 1) := by decide +kernel
theorem dX7_goesOf_32 : decode cX7_goesOf 32 = .ok (.istore 4, 2) := by decide +kernel
theorem dX7_goesOf_34 : decode cX7_goesOf 34 = .ok (.iload 4, 2) := by decide +kernel
theorem dX7_goesOf_36 : decode cX7_goesOf 36 = .ok (.aload_n 0, 1) := by decide +kernel
theorem dX7_goesOf_37 : decode cX7_goesOf 37 = .ok (.getfield 70, 3) := by decide +kernel
theorem dX7_goesOf_40 : decode cX7_goesOf 40 = .ok (.if_icmp .ge 36, 3) := by decide +kernel
theorem dX7_goesOf_43 : decode cX7_goesOf 43 = .ok (.aload_n 0, 1) := by decide +kernel
theorem dX7_goesOf_44 : decode cX7_goesOf 44 = .ok (.getfield 42, 3) := by decide +kernel
theorem dX7_goesOf_47 : decode cX7_goesOf 47 = .ok (.iload 4, 2) := by decide +kernel
theorem dX7_goesOf_49 : decode cX7_goesOf 49 = .ok (.aaload, 1) := by decide +kernel
theorem dX7_goesOf_50 : decode cX7_goesOf 50 = .ok (.iconst 0, 1) := by decide +kernel
theorem dX7_goesOf_51 : decode cX7_goesOf 51 = .ok (.iaload, 1) := by decide +kernel
theorem dX7_goesOf_52 : decode cX7_goesOf 52 = .ok (.iload_n 3, 1) := by decide +kernel
theorem dX7_goesOf_53 : decode cX7_goesOf 53 = .ok (.if_icmp .ne 17, 3) := by decide +kernel
theorem dX7_goesOf_56 : decode cX7_goesOf 56 = .ok (.aload_n 0, 1) := by decide +kernel
theorem dX7_goesOf_57 : decode cX7_goesOf 57 = .ok (.iload_n 1, 1) := by decide +kernel
theorem dX7_goesOf_58 : decode cX7_goesOf 58 = .ok (.iload_n 2, 1) := by decide +kernel
theorem dX7_goesOf_59 : decode cX7_goesOf 59 = .ok (.iload 4, 2) := by decide +kernel
theorem dX7_goesOf_61 : decode cX7_goesOf 61 = .ok (.invokevirtual 271, 3) := by decide +kernel
theorem dX7_goesOf_64 : decode cX7_goesOf 64 = .ok (.iconst 2, 1) := by decide +kernel
theorem dX7_goesOf_65 : decode cX7_goesOf 65 = .ok (.if_icmp .ne 5, 3) := by decide +kernel
theorem dX7_goesOf_68 : decode cX7_goesOf 68 = .ok (.iconst 0, 1) := by decide +kernel
theorem dX7_goesOf_69 : decode cX7_goesOf 69 = .ok (.ireturn, 1) := by decide +kernel
theorem dX7_goesOf_70 : decode cX7_goesOf 70 = .ok (.iinc 4 1, 3) := by decide +kernel
theorem dX7_goesOf_73 : decode cX7_goesOf 73 = .ok (.goto (-39), 3) := by decide +kernel
theorem dX7_goesOf_76 : decode cX7_goesOf 76 = .ok (.iconst 1, 1) := by decide +kernel
theorem dX7_goesOf_77 : decode cX7_goesOf 77 = .ok (.ireturn, 1) := by decide +kernel
theorem dX7_in_0 : decode cX7_in 0 = .ok (.lload_n 0, 1) := by decide +kernel
theorem dX7_in_1 : decode cX7_in 1 = .ok (.lload_n 2, 1) := by decide +kernel
theorem dX7_in_2 : decode cX7_in 2 = .ok (.lcmp, 1) := by decide +kernel
theorem dX7_in_3 : decode cX7_in 3 = .ok (.ifCond .lt 14, 3) := by decide +kernel
theorem dX7_in_6 : decode cX7_in 6 = .ok (.lload_n 0, 1) := by decide +kernel
theorem dX7_in_7 : decode cX7_in 7 = .ok (.lload 4, 2) := by decide +kernel
theorem dX7_in_9 : decode cX7_in 9 = .ok (.lcmp, 1) := by decide +kernel
theorem dX7_in_10 : decode cX7_in 10 = .ok (.ifCond .gt 7, 3) := by decide +kernel
theorem dX7_in_13 : decode cX7_in 13 = .ok (.iconst 1, 1) := by decide +kernel
theorem dX7_in_14 : decode cX7_in 14 = .ok (.goto 4, 3) := by decide +kernel
theorem dX7_in_17 : decode cX7_in 17 = .ok (.iconst 0, 1) := by decide +kernel
theorem dX7_in_18 : decode cX7_in 18 = .ok (.ireturn, 1) := by decide +kernel
theorem dX7_isBridge_0 : decode cX7_isBridge 0 = .ok (.iload_n 1, 1) := by decide +kernel
theorem dX7_isBridge_1 : decode cX7_isBridge 1 = .ok (.i2l, 1) := by decide +kernel
theorem dX7_isBridge_2 : decode cX7_isBridge 2 = .ok (.lconst 0, 1) := by decide +kernel
theorem dX7_isBridge_3 : decode cX7_isBridge 3 = .ok (.aload_n 0, 1) := by decide +kernel
theorem dX7_isBridge_4 : decode cX7_isBridge 4 = .ok (.getfield 70, 3) := by decide +kernel
theorem dX7_isBridge_7 : decode cX7_isBridge 7 = .ok (.iconst 1, 1) := by decide +kernel
theorem dX7_isBridge_8 : decode cX7_isBridge 8 = .ok (.isub, 1) := by decide +kernel
theorem dX7_isBridge_9 : decode cX7_isBridge 9 = .ok (.i2l, 1) := by decide +kernel
theorem dX7_isBridge_10 : decode cX7_isBridge 10 = .ok (.invokestatic 62, 3) := by decide +kernel
theorem dX7_isBridge_13 : decode cX7_isBridge 13 = .ok (.ireturn, 1) := by decide +kernel
theorem dX7_isDigit_0 : decode cX7_isDigit 0 = .ok (.iload_n 0, 1) := by decide +kernel
theorem dX7_isDigit_1 : decode cX7_isDigit 1 = .ok (.bipush 48, 2) := by decide +kernel
theorem dX7_isDigit_3 : decode cX7_isDigit 3 = .ok (.if_icmp .lt 13, 3) := by decide +kernel
theorem dX7_isDigit_6 : decode cX7_isDigit 6 = .ok (.iload_n 0, 1) := by decide +kernel
theorem dX7_isDigit_7 : decode cX7_isDigit 7 = .ok (.bipush 57, 2) := by decide +kernel
theorem dX7_isDigit_9 : decode cX7_isDigit 9 = .ok (.if_icmp .gt 7, 3) := by decide +kernel
theorem dX7_isDigit_12 : decode cX7_isDigit 12 = .ok (.iconst 1, 1) := by decide +kernel
theorem dX7_isDigit_13 : decode cX7_isDigit 13 = .ok (.goto 4, 3) := by decide +kernel
theorem dX7_isDigit_16 : decode cX7_isDigit 16 = .ok (.iconst 0, 1) := by decide +kernel
theorem dX7_isDigit_17 : decode cX7_isDigit 17 = .ok (.ireturn, 1) := by decide +kernel
theorem dX7_isHalf_0 : decode cX7_isHalf 0 = .ok (.aload_n 0, 1) := by decide +kernel
theorem dX7_isHalf_1 : decode cX7_isHalf 1 = .ok (.getfield 42, 3) := by decide +kernel
theorem dX7_isHalf_4 : decode cX7_isHalf 4 = .ok (.iload_n 1, 1) := by decide +kernel
theorem dX7_isHalf_5 : decode cX7_isHalf 5 = .ok (.aaload, 1) := by decide +kernel
theorem dX7_isHalf_6 : decode cX7_isHalf 6 = .ok (.iconst 1, 1) := by decide +kernel
theorem dX7_isHalf_7 : decode cX7_isHalf 7 = .ok (.iaload, 1) := by decide +kernel
theorem dX7_isHalf_8 : decode cX7_isHalf 8 = .ok (.iconst 4, 1) := by decide +kernel
theorem dX7_isHalf_9 : decode cX7_isHalf 9 = .ok (.if_icmp .lt 19, 3) := by decide +kernel
theorem dX7_isHalf_12 : decode cX7_isHalf 12 = .ok (.aload_n 0, 1) := by decide +kernel
theorem dX7_isHalf_13 : decode cX7_isHalf 13 = .ok (.getfield 42, 3) := by decide +kernel
theorem dX7_isHalf_16 : decode cX7_isHalf 16 = .ok (.iload_n 1, 1) := by decide +kernel
theorem dX7_isHalf_17 : decode cX7_isHalf 17 = .ok (.aaload, 1) := by decide +kernel
theorem dX7_isHalf_18 : decode cX7_isHalf 18 = .ok (.bipush 9, 2) := by decide +kernel
theorem dX7_isHalf_20 : decode cX7_isHalf 20 = .ok (.iaload, 1) := by decide +kernel
theorem dX7_isHalf_21 : decode cX7_isHalf 21 = .ok (.ifCond .ne 7, 3) := by decide +kernel
theorem dX7_isHalf_24 : decode cX7_isHalf 24 = .ok (.iconst 1, 1) := by decide +kernel
theorem dX7_isHalf_25 : decode cX7_isHalf 25 = .ok (.goto 4, 3) := by decide +kernel
theorem dX7_isHalf_28 : decode cX7_isHalf 28 = .ok (.iconst 0, 1) := by decide +kernel
theorem dX7_isHalf_29 : decode cX7_isHalf 29 = .ok (.ireturn, 1) := by decide +kernel
theorem dX7_isLetter_0 : decode cX7_isLetter 0 = .ok (.iload_n 0, 1) := by decide +kernel
theorem dX7_isLetter_1 : decode cX7_isLetter 1 = .ok (.bipush 97, 2) := by decide +kernel
theorem dX7_isLetter_3 : decode cX7_isLetter 3 = .ok (.if_icmp .lt 13, 3) := by decide +kernel
theorem dX7_isLetter_6 : decode cX7_isLetter 6 = .ok (.iload_n 0, 1) := by decide +kernel
theorem dX7_isLetter_7 : decode cX7_isLetter 7 = .ok (.bipush 122, 2) := by decide +kernel
theorem dX7_isLetter_9 : decode cX7_isLetter 9 = .ok (.if_icmp .gt 7, 3) := by decide +kernel
theorem dX7_isLetter_12 : decode cX7_isLetter 12 = .ok (.iconst 1, 1) := by decide +kernel
theorem dX7_isLetter_13 : decode cX7_isLetter 13 = .ok (.goto 4, 3) := by decide +kernel
theorem dX7_isLetter_16 : decode cX7_isLetter 16 = .ok (.iconst 0, 1) := by decide +kernel
theorem dX7_isLetter_17 : decode cX7_isLetter 17 = .ok (.ireturn, 1) := by decide +kernel
theorem dX7_isNothing_0 : decode cX7_isNothing 0 = .ok (.aload_n 0, 1) := by decide +kernel
theorem dX7_isNothing_1 : decode cX7_isNothing 1 = .ok (.getfield 42, 3) := by decide +kernel
theorem dX7_isNothing_4 : decode cX7_isNothing 4 = .ok (.iload_n 1, 1) := by decide +kernel
theorem dX7_isNothing_5 : decode cX7_isNothing 5 = .ok (.aaload, 1) := by decide +kernel
theorem dX7_isNothing_6 : decode cX7_isNothing 6 = .ok (.iconst 1, 1) := by decide +kernel
theorem dX7_isNothing_7 : decode cX7_isNothing 7 = .ok (.iaload, 1) := by decide +kernel
theorem dX7_isNothing_8 : decode cX7_isNothing 8 = .ok (.iconst 5, 1) := by decide +kernel
theorem dX7_isNothing_9 : decode cX7_isNothing 9 = .ok (.if_icmp .ne 16, 3) := by decide +kernel
theorem dX7_isNothing_12 : decode cX7_isNothing 12 = .ok (.aload_n 0, 1) := by decide +kernel
theorem dX7_isNothing_13 : decode cX7_isNothing 13 = .ok (.getfield 51, 3) := by decide +kernel
theorem dX7_isNothing_16 : decode cX7_isNothing 16 = .ok (.iconst 2, 1) := by decide +kernel
theorem dX7_isNothing_17 : decode cX7_isNothing 17 = .ok (.iaload, 1) := by decide +kernel
theorem dX7_isNothing_18 : decode cX7_isNothing 18 = .ok (.ifCond .ne 7, 3) := by decide +kernel
theorem dX7_isNothing_21 : decode cX7_isNothing 21 = .ok (.iconst 1, 1) := by decide +kernel
theorem dX7_isNothing_22 : decode cX7_isNothing 22 = .ok (.goto 4, 3) := by decide +kernel
theorem dX7_isNothing_25 : decode cX7_isNothing 25 = .ok (.iconst 0, 1) := by decide +kernel
theorem dX7_isNothing_26 : decode cX7_isNothing 26 = .ok (.ireturn, 1) := by decide +kernel
theorem dX7_isPack_0 : decode cX7_isPack 0 = .ok (.aload_n 0, 1) := by decide +kernel
theorem dX7_isPack_1 : decode cX7_isPack 1 = .ok (.iload_n 1, 1) := by decide +kernel
theorem dX7_isPack_2 : decode cX7_isPack 2 = .ok (.invokevirtual 76, 3) := by decide +kernel
theorem dX7_isPack_5 : decode cX7_isPack 5 = .ok (.ifCond .eq 25, 3) := by decide +kernel
theorem dX7_isPack_8 : decode cX7_isPack 8 = .ok (.iload_n 2, 1) := by decide +kernel
theorem dX7_isPack_9 : decode cX7_isPack 9 = .ok (.i2l, 1) := by decide +kernel
theorem dX7_isPack_10 : decode cX7_isPack 10 = .ok (.lconst 0, 1) := by decide +kernel
theorem dX7_isPack_11 : decode cX7_isPack 11 = .ok (.iconst 1, 1) := by decide +kernel
theorem dX7_isPack_12 : decode cX7_isPack 12 = .ok (.aload_n 0, 1) := by decide +kernel
theorem dX7_isPack_13 : decode cX7_isPack 13 = .ok (.getfield 80, 3) := by decide +kernel
theorem dX7_isPack_16 : decode cX7_isPack 16 = .ok (.ishl, 1) := by decide +kernel
theorem dX7_isPack_17 : decode cX7_isPack 17 = .ok (.iconst 1, 1) := by decide +kernel
theorem dX7_isPack_18 : decode cX7_isPack 18 = .ok (.isub, 1) := by decide +kernel
theorem dX7_isPack_19 : decode cX7_isPack 19 = .ok (.i2l, 1) := by decide +kernel
theorem dX7_isPack_20 : decode cX7_isPack 20 = .ok (.invokestatic 62, 3) := by decide +kernel
theorem dX7_isPack_23 : decode cX7_isPack 23 = .ok (.ifCond .eq 7, 3) := by decide +kernel
theorem dX7_isPack_26 : decode cX7_isPack 26 = .ok (.iconst 1, 1) := by decide +kernel
theorem dX7_isPack_27 : decode cX7_isPack 27 = .ok (.goto 4, 3) := by decide +kernel
theorem dX7_isPack_30 : decode cX7_isPack 30 = .ok (.iconst 0, 1) := by decide +kernel
theorem dX7_isPack_31 : decode cX7_isPack 31 = .ok (.ireturn, 1) := by decide +kernel
theorem dX7_isPlace_0 : decode cX7_isPlace 0 = .ok (.iload_n 0, 1) := by decide +kernel
theorem dX7_isPlace_1 : decode cX7_isPlace 1 = .ok (.i2l, 1) := by decide +kernel
theorem dX7_isPlace_2 : decode cX7_isPlace 2 = .ok (.lconst 0, 1) := by decide +kernel
theorem dX7_isPlace_3 : decode cX7_isPlace 3 = .ok (.ldc2_w 60, 3) := by decide +kernel
theorem dX7_isPlace_6 : decode cX7_isPlace 6 = .ok (.invokestatic 62, 3) := by decide +kernel
theorem dX7_isPlace_9 : decode cX7_isPlace 9 = .ok (.ireturn, 1) := by decide +kernel
theorem dX7_isRoad_0 : decode cX7_isRoad 0 = .ok (.iload_n 1, 1) := by decide +kernel
theorem dX7_isRoad_1 : decode cX7_isRoad 1 = .ok (.i2l, 1) := by decide +kernel
theorem dX7_isRoad_2 : decode cX7_isRoad 2 = .ok (.lconst 0, 1) := by decide +kernel
theorem dX7_isRoad_3 : decode cX7_isRoad 3 = .ok (.aload_n 0, 1) := by decide +kernel
theorem dX7_isRoad_4 : decode cX7_isRoad 4 = .ok (.getfield 66, 3) := by decide +kernel
theorem dX7_isRoad_7 : decode cX7_isRoad 7 = .ok (.iconst 1, 1) := by decide +kernel
theorem dX7_isRoad_8 : decode cX7_isRoad 8 = .ok (.isub, 1) := by decide +kernel
theorem dX7_isRoad_9 : decode cX7_isRoad 9 = .ok (.i2l, 1) := by decide +kernel
theorem dX7_isRoad_10 : decode cX7_isRoad 10 = .ok (.invokestatic 62, 3) := by decide +kernel
theorem dX7_isRoad_13 : decode cX7_isRoad 13 = .ok (.ireturn, 1) := by decide +kernel
theorem dX7_isUnder_0 : decode cX7_isUnder 0 = .ok (.iload_n 1, 1) := by decide +kernel
theorem dX7_isUnder_1 : decode cX7_isUnder 1 = .ok (.ifCond .eq 28, 3) := by decide +kernel
theorem dX7_isUnder_4 : decode cX7_isUnder 4 = .ok (.iload_n 0, 1) := by decide +kernel
theorem dX7_isUnder_5 : decode cX7_isUnder 5 = .ok (.iload_n 1, 1) := by decide +kernel
theorem dX7_isUnder_6 : decode cX7_isUnder 6 = .ok (.if_icmp .eq 23, 3) := by decide +kernel
theorem dX7_isUnder_9 : decode cX7_isUnder 9 = .ok (.iload_n 1, 1) := by decide +kernel
theorem dX7_isUnder_10 : decode cX7_isUnder 10 = .ok (.iconst 1, 1) := by decide +kernel
theorem dX7_isUnder_11 : decode cX7_isUnder 11 = .ok (.if_icmp .ne 8, 3) := by decide +kernel
theorem dX7_isUnder_14 : decode cX7_isUnder 14 = .ok (.iload_n 0, 1) := by decide +kernel
theorem dX7_isUnder_15 : decode cX7_isUnder 15 = .ok (.iconst 2, 1) := by decide +kernel
theorem dX7_isUnder_16 : decode cX7_isUnder 16 = .ok (.if_icmp .eq 13, 3) := by decide +kernel
theorem dX7_isUnder_19 : decode cX7_isUnder 19 = .ok (.iload_n 1, 1) := by decide +kernel
theorem dX7_isUnder_20 : decode cX7_isUnder 20 = .ok (.iconst 4, 1) := by decide +kernel
theorem dX7_isUnder_21 : decode cX7_isUnder 21 = .ok (.if_icmp .ne 12, 3) := by decide +kernel
theorem dX7_isUnder_24 : decode cX7_isUnder 24 = .ok (.iload_n 0, 1) := by decide +kernel
theorem dX7_isUnder_25 : decode cX7_isUnder 25 = .ok (.iconst 5, 1) := by decide +kernel
theorem dX7_isUnder_26 : decode cX7_isUnder 26 = .ok (.if_icmp .ne 7, 3) := by decide +kernel
theorem dX7_isUnder_29 : decode cX7_isUnder 29 = .ok (.iconst 1, 1) := by decide +kernel
theorem dX7_isUnder_30 : decode cX7_isUnder 30 = .ok (.goto 4, 3) := by decide +kernel
theorem dX7_isUnder_33 : decode cX7_isUnder 33 = .ok (.iconst 0, 1) := by decide +kernel
theorem dX7_isUnder_34 : decode cX7_isUnder 34 = .ok (.ireturn, 1) := by decide +kernel
theorem dX7_isWaggon_0 : decode cX7_isWaggon 0 = .ok (.iload_n 1, 1) := by decide +kernel
theorem dX7_isWaggon_1 : decode cX7_isWaggon 1 = .ok (.i2l, 1) := by decide +kernel
theorem dX7_isWaggon_2 : decode cX7_isWaggon 2 = .ok (.lconst 0, 1) := by decide +kernel
theorem dX7_isWaggon_3 : decode cX7_isWaggon 3 = .ok (.aload_n 0, 1) := by decide +kernel
theorem dX7_isWaggon_4 : decode cX7_isWaggon 4 = .ok (.getfield 73, 3) := by decide +kernel
theorem dX7_isWaggon_7 : decode cX7_isWaggon 7 = .ok (.iconst 1, 1) := by decide +kernel
theorem dX7_isWaggon_8 : decode cX7_isWaggon 8 = .ok (.isub, 1) := by decide +kernel
theorem dX7_isWaggon_9 : decode cX7_isWaggon 9 = .ok (.i2l, 1) := by decide +kernel
theorem dX7_isWaggon_10 : decode cX7_isWaggon 10 = .ok (.invokestatic 62, 3) := by decide +kernel
theorem dX7_isWaggon_13 : decode cX7_isWaggon 13 = .ok (.ireturn, 1) := by decide +kernel
theorem dX7_lengthOf_0 : decode cX7_lengthOf 0 = .ok (.aload_n 0, 1) := by decide +kernel
theorem dX7_lengthOf_1 : decode cX7_lengthOf 1 = .ok (.getfield 45, 3) := by decide +kernel
theorem dX7_lengthOf_4 : decode cX7_lengthOf 4 = .ok (.iload_n 1, 1) := by decide +kernel
theorem dX7_lengthOf_5 : decode cX7_lengthOf 5 = .ok (.aaload, 1) := by decide +kernel
theorem dX7_lengthOf_6 : decode cX7_lengthOf 6 = .ok (.iconst 1, 1) := by decide +kernel
theorem dX7_lengthOf_7 : decode cX7_lengthOf 7 = .ok (.iaload, 1) := by decide +kernel
theorem dX7_lengthOf_8 : decode cX7_lengthOf 8 = .ok (.aload_n 0, 1) := by decide +kernel
theorem dX7_lengthOf_9 : decode cX7_lengthOf 9 = .ok (.getfield 45, 3) := by decide +kernel
theorem dX7_lengthOf_12 : decode cX7_lengthOf 12 = .ok (.iload_n 1, 1) := by decide +kernel
theorem dX7_lengthOf_13 : decode cX7_lengthOf 13 = .ok (.aaload, 1) := by decide +kernel
theorem dX7_lengthOf_14 : decode cX7_lengthOf 14 = .ok (.iconst 0, 1) := by decide +kernel
theorem dX7_lengthOf_15 : decode cX7_lengthOf 15 = .ok (.iaload, 1) := by decide +kernel
theorem dX7_lengthOf_16 : decode cX7_lengthOf 16 = .ok (.iconst 1, 1) := by decide +kernel
theorem dX7_lengthOf_17 : decode cX7_lengthOf 17 = .ok (.isub, 1) := by decide +kernel
theorem dX7_lengthOf_18 : decode cX7_lengthOf 18 = .ok (.imul, 1) := by decide +kernel
theorem dX7_lengthOf_19 : decode cX7_lengthOf 19 = .ok (.iconst 4, 1) := by decide +kernel
theorem dX7_lengthOf_20 : decode cX7_lengthOf 20 = .ok (.iadd, 1) := by decide +kernel
theorem dX7_lengthOf_21 : decode cX7_lengthOf 21 = .ok (.ireturn, 1) := by decide +kernel
theorem dX7_needsOf_0 : decode cX7_needsOf 0 = .ok (.aload_n 0, 1) := by decide +kernel
theorem dX7_needsOf_1 : decode cX7_needsOf 1 = .ok (.iload_n 1, 1) := by decide +kernel
theorem dX7_needsOf_2 : decode cX7_needsOf 2 = .ok (.iload_n 2, 1) := by decide +kernel
theorem dX7_needsOf_3 : decode cX7_needsOf 3 = .ok (.invokevirtual 263, 3) := by decide +kernel
theorem dX7_needsOf_6 : decode cX7_needsOf 6 = .ok (.aload_n 0, 1) := by decide +kernel
theorem dX7_needsOf_7 : decode cX7_needsOf 7 = .ok (.iload_n 3, 1) := by decide +kernel
theorem dX7_needsOf_8 : decode cX7_needsOf 8 = .ok (.invokevirtual 106, 3) := by decide +kernel
theorem dX7_needsOf_11 : decode cX7_needsOf 11 = .ok (.if_icmp .le 5, 3) := by decide +kernel
theorem dX7_needsOf_14 : decode cX7_needsOf 14 = .ok (.iconst 2, 1) := by decide +kernel
theorem dX7_needsOf_15 : decode cX7_needsOf 15 = .ok (.ireturn, 1) := by decide +kernel
theorem dX7_needsOf_16 : decode cX7_needsOf 16 = .ok (.aload_n 0, 1) := by decide +kernel
theorem dX7_needsOf_17 : decode cX7_needsOf 17 = .ok (.iload_n 1, 1) := by decide +kernel
theorem dX7_needsOf_18 : decode cX7_needsOf 18 = .ok (.iload_n 2, 1) := by decide +kernel
theorem dX7_needsOf_19 : decode cX7_needsOf 19 = .ok (.iload_n 3, 1) := by decide +kernel
theorem dX7_needsOf_20 : decode cX7_needsOf 20 = .ok (.invokevirtual 267, 3) := by decide +kernel
theorem dX7_needsOf_23 : decode cX7_needsOf 23 = .ok (.istore 4, 2) := by decide +kernel
theorem dX7_needsOf_25 : decode cX7_needsOf 25 = .ok (.aload_n 0, 1) := by decide +kernel
theorem dX7_needsOf_26 : decode cX7_needsOf 26 = .ok (.getfield 42, 3) := by decide +kernel
theorem dX7_needsOf_29 : decode cX7_needsOf 29 = .ok (.iload_n 3, 1) := by decide +kernel
theorem dX7_needsOf_30 : decode cX7_needsOf 30 = .ok (.aaload, 1) := by decide +kernel
theorem dX7_needsOf_31 : decode cX7_needsOf 31 = .ok (.bipush 7, 2) := by decide +kernel
theorem dX7_needsOf_33 : decode cX7_needsOf 33 = .ok (.iaload, 1) := by decide +kernel
theorem dX7_needsOf_34 : decode cX7_needsOf 34 = .ok (.iconst 1, 1) := by decide +kernel
theorem dX7_needsOf_35 : decode cX7_needsOf 35 = .ok (.if_icmp .ne 7, 3) := by decide +kernel
theorem dX7_needsOf_38 : decode cX7_needsOf 38 = .ok (.iconst 1, 1) := by decide +kernel
theorem dX7_needsOf_39 : decode cX7_needsOf 39 = .ok (.goto 4, 3) := by decide +kernel
theorem dX7_needsOf_42 : decode cX7_needsOf 42 = .ok (.iconst 0, 1) := by decide +kernel
theorem dX7_needsOf_43 : decode cX7_needsOf 43 = .ok (.istore 5, 2) := by decide +kernel
theorem dX7_needsOf_45 : decode cX7_needsOf 45 = .ok (.iload 4, 2) := by decide +kernel
theorem dX7_needsOf_47 : decode cX7_needsOf 47 = .ok (.aload_n 0, 1) := by decide +kernel
theorem dX7_needsOf_48 : decode cX7_needsOf 48 = .ok (.iload_n 3, 1) := by decide +kernel
theorem dX7_needsOf_49 : decode cX7_needsOf 49 = .ok (.iload 5, 2) := by decide +kernel
theorem dX7_needsOf_51 : decode cX7_needsOf 51 = .ok (.invokevirtual 109, 3) := by decide +kernel
theorem dX7_needsOf_54 : decode cX7_needsOf 54 = .ok (.if_icmp .gt 5, 3) := by decide +kernel
theorem dX7_needsOf_57 : decode cX7_needsOf 57 = .ok (.iconst 0, 1) := by decide +kernel
theorem dX7_needsOf_58 : decode cX7_needsOf 58 = .ok (.ireturn, 1) := by decide +kernel
theorem dX7_needsOf_59 : decode cX7_needsOf 59 = .ok (.iload 5, 2) := by decide +kernel
theorem dX7_needsOf_61 : decode cX7_needsOf 61 = .ok (.ifCond .ne 30, 3) := by decide +kernel
theorem dX7_needsOf_64 : decode cX7_needsOf 64 = .ok (.aload_n 0, 1) := by decide +kernel
theorem dX7_needsOf_65 : decode cX7_needsOf 65 = .ok (.getfield 42, 3) := by decide +kernel
theorem dX7_needsOf_68 : decode cX7_needsOf 68 = .ok (.iload_n 3, 1) := by decide +kernel
theorem dX7_needsOf_69 : decode cX7_needsOf 69 = .ok (.aaload, 1) := by decide +kernel
theorem dX7_needsOf_70 : decode cX7_needsOf 70 = .ok (.iconst 1, 1) := by decide +kernel
theorem dX7_needsOf_71 : decode cX7_needsOf 71 = .ok (.iaload, 1) := by decide +kernel
theorem dX7_needsOf_72 : decode cX7_needsOf 72 = .ok (.iconst 3, 1) := by decide +kernel
theorem dX7_needsOf_73 : decode cX7_needsOf 73 = .ok (.if_icmp .eq 18, 3) := by decide +kernel
theorem dX7_needsOf_76 : decode cX7_needsOf 76 = .ok (.iload 4, 2) := by decide +kernel
theorem dX7_needsOf_78 : decode cX7_needsOf 78 = .ok (.aload_n 0, 1) := by decide +kernel
theorem dX7_needsOf_79 : decode cX7_needsOf 79 = .ok (.iload_n 3, 1) := by decide +kernel
theorem dX7_needsOf_80 : decode cX7_needsOf 80 = .ok (.iconst 1, 1) := by decide +kernel
theorem dX7_needsOf_81 : decode cX7_needsOf 81 = .ok (.invokevirtual 109, 3) := by decide +kernel
theorem dX7_needsOf_84 : decode cX7_needsOf 84 = .ok (.if_icmp .gt 7, 3) := by decide +kernel
theorem dX7_needsOf_87 : decode cX7_needsOf 87 = .ok (.iconst 1, 1) := by decide +kernel
theorem dX7_needsOf_88 : decode cX7_needsOf 88 = .ok (.goto 4, 3) := by decide +kernel
theorem dX7_needsOf_91 : decode cX7_needsOf 91 = .ok (.iconst 2, 1) := by decide +kernel
theorem dX7_needsOf_92 : decode cX7_needsOf 92 = .ok (.ireturn, 1) := by decide +kernel
theorem dX7_partsCoin_0 : decode cX7_partsCoin 0 = .ok (.iconst 0, 1) := by decide +kernel
theorem dX7_partsCoin_1 : decode cX7_partsCoin 1 = .ok (.istore_n 2, 1) := by decide +kernel
theorem dX7_partsCoin_2 : decode cX7_partsCoin 2 = .ok (.iconst 0, 1) := by decide +kernel
theorem dX7_partsCoin_3 : decode cX7_partsCoin 3 = .ok (.istore_n 3, 1) := by decide +kernel
theorem dX7_partsCoin_4 : decode cX7_partsCoin 4 = .ok (.iload_n 3, 1) := by decide +kernel
theorem dX7_partsCoin_5 : decode cX7_partsCoin 5 = .ok (.aload_n 0, 1) := by decide +kernel
theorem dX7_partsCoin_6 : decode cX7_partsCoin 6 = .ok (.getfield 80, 3) := by decide +kernel
theorem dX7_partsCoin_9 : decode cX7_partsCoin 9 = .ok (.if_icmp .ge 32, 3) := by decide +kernel
theorem dX7_partsCoin_12 : decode cX7_partsCoin 12 = .ok (.iload_n 2, 1) := by decide +kernel
theorem dX7_partsCoin_13 : decode cX7_partsCoin 13 = .ok (.iload_n 1, 1) := by decide +kernel
theorem dX7_partsCoin_14 : decode cX7_partsCoin 14 = .ok (.iload_n 3, 1) := by decide +kernel
theorem dX7_partsCoin_15 : decode cX7_partsCoin 15 = .ok (.ishr, 1) := by decide +kernel
theorem dX7_partsCoin_16 : decode cX7_partsCoin 16 = .ok (.iconst 1, 1) := by decide +kernel
theorem dX7_partsCoin_17 : decode cX7_partsCoin 17 = .ok (.iand, 1) := by decide +kernel
theorem dX7_partsCoin_18 : decode cX7_partsCoin 18 = .ok (.ifCond .eq 14, 3) := by decide +kernel
theorem dX7_partsCoin_21 : decode cX7_partsCoin 21 = .ok (.aload_n 0, 1) := by decide +kernel
theorem dX7_partsCoin_22 : decode cX7_partsCoin 22 = .ok (.getfield 48, 3) := by decide +kernel
theorem dX7_partsCoin_25 : decode cX7_partsCoin 25 = .ok (.iload_n 3, 1) := by decide +kernel
theorem dX7_partsCoin_26 : decode cX7_partsCoin 26 = .ok (.aaload, 1) := by decide +kernel
theorem dX7_partsCoin_27 : decode cX7_partsCoin 27 = .ok (.iconst 1, 1) := by decide +kernel
theorem dX7_partsCoin_28 : decode cX7_partsCoin 28 = .ok (.iaload, 1) := by decide +kernel
theorem dX7_partsCoin_29 : decode cX7_partsCoin 29 = .ok (.goto 4, 3) := by decide +kernel
theorem dX7_partsCoin_32 : decode cX7_partsCoin 32 = .ok (.iconst 0, 1) := by decide +kernel
theorem dX7_partsCoin_33 : decode cX7_partsCoin 33 = .ok (.iadd, 1) := by decide +kernel
theorem dX7_partsCoin_34 : decode cX7_partsCoin 34 = .ok (.istore_n 2, 1) := by decide +kernel
theorem dX7_partsCoin_35 : decode cX7_partsCoin 35 = .ok (.iinc 3 1, 3) := by decide +kernel
theorem dX7_partsCoin_38 : decode cX7_partsCoin 38 = .ok (.goto (-34), 3) := by decide +kernel
theorem dX7_partsCoin_41 : decode cX7_partsCoin 41 = .ok (.iload_n 2, 1) := by decide +kernel
theorem dX7_partsCoin_42 : decode cX7_partsCoin 42 = .ok (.ireturn, 1) := by decide +kernel
theorem dX7_propsOf_0 : decode cX7_propsOf 0 = .ok (.iconst 0, 1) := by decide +kernel
theorem dX7_propsOf_1 : decode cX7_propsOf 1 = .ok (.istore 5, 2) := by decide +kernel
theorem dX7_propsOf_3 : decode cX7_propsOf 3 = .ok (.iconst 0, 1) := by decide +kernel
theorem dX7_propsOf_4 : decode cX7_propsOf 4 = .ok (.istore 6, 2) := by decide +kernel
theorem dX7_propsOf_6 : decode cX7_propsOf 6 = .ok (.iload 6, 2) := by decide +kernel
theorem dX7_propsOf_8 : decode cX7_propsOf 8 = .ok (.aload_n 0, 1) := by decide +kernel
theorem dX7_propsOf_9 : decode cX7_propsOf 9 = .ok (.getfield 70, 3) := by decide +kernel
theorem dX7_propsOf_12 : decode cX7_propsOf 12 = .ok (.if_icmp .ge 58, 3) := by decide +kernel
theorem dX7_propsOf_15 : decode cX7_propsOf 15 = .ok (.aload_n 0, 1) := by decide +kernel
theorem dX7_propsOf_16 : decode cX7_propsOf 16 = .ok (.getfield 42, 3) := by decide +kernel
theorem dX7_propsOf_19 : decode cX7_propsOf 19 = .ok (.iload 6, 2) := by decide +kernel
theorem dX7_propsOf_21 : decode cX7_propsOf 21 = .ok (.aaload, 1) := by decide +kernel
theorem dX7_propsOf_22 : decode cX7_propsOf 22 = .ok (.iconst 0, 1) := by decide +kernel
theorem dX7_propsOf_23 : decode cX7_propsOf 23 = .ok (.iaload, 1) := by decide +kernel
theorem dX7_propsOf_24 : decode cX7_propsOf 24 = .ok (.iload_n 3, 1) := by decide +kernel
theorem dX7_propsOf_25 : decode cX7_propsOf 25 = .ok (.if_icmp .ne 39, 3) := by decide +kernel
theorem dX7_propsOf_28 : decode cX7_propsOf 28 = .ok (.aload_n 0, 1) := by decide +kernel
theorem dX7_propsOf_29 : decode cX7_propsOf 29 = .ok (.iload_n 1, 1) := by decide +kernel
theorem dX7_propsOf_30 : decode cX7_propsOf 30 = .ok (.iload_n 2, 1) := by decide +kernel
theorem dX7_propsOf_31 : decode cX7_propsOf 31 = .ok (.iload 6, 2) := by decide +kernel
theorem dX7_propsOf_33 : decode cX7_propsOf 33 = .ok (.invokevirtual 271, 3) := by decide +kernel
theorem dX7_propsOf_36 : decode cX7_propsOf 36 = .ok (.iconst 1, 1) := by decide +kernel
theorem dX7_propsOf_37 : decode cX7_propsOf 37 = .ok (.if_icmp .ne 27, 3) := by decide +kernel
theorem dX7_propsOf_40 : decode cX7_propsOf 40 = .ok (.iload 5, 2) := by decide +kernel
theorem dX7_propsOf_42 : decode cX7_propsOf 42 = .ok (.iload 4, 2) := by decide +kernel
theorem dX7_propsOf_44 : decode cX7_propsOf 44 = .ok (.ifCond .eq 16, 3) := by decide +kernel
theorem dX7_propsOf_47 : decode cX7_propsOf 47 = .ok (.aload_n 0, 1) := by decide +kernel
theorem dX7_propsOf_48 : decode cX7_propsOf 48 = .ok (.getfield 42, 3) := by decide +kernel
theorem dX7_propsOf_51 : decode cX7_propsOf 51 = .ok (.iload 6, 2) := by decide +kernel
theorem dX7_propsOf_53 : decode cX7_propsOf 53 = .ok (.aaload, 1) := by decide +kernel
theorem dX7_propsOf_54 : decode cX7_propsOf 54 = .ok (.bipush 6, 2) := by decide +kernel
theorem dX7_propsOf_56 : decode cX7_propsOf 56 = .ok (.iaload, 1) := by decide +kernel
theorem dX7_propsOf_57 : decode cX7_propsOf 57 = .ok (.goto 4, 3) := by decide +kernel
theorem dX7_propsOf_60 : decode cX7_propsOf 60 = .ok (.iconst 1, 1) := by decide +kernel
theorem dX7_propsOf_61 : decode cX7_propsOf 61 = .ok (.iadd, 1) := by decide +kernel
theorem dX7_propsOf_62 : decode cX7_propsOf 62 = .ok (.istore 5, 2) := by decide +kernel
theorem dX7_propsOf_64 : decode cX7_propsOf 64 = .ok (.iinc 6 1, 3) := by decide +kernel
theorem dX7_propsOf_67 : decode cX7_propsOf 67 = .ok (.goto (-61), 3) := by decide +kernel
theorem dX7_propsOf_70 : decode cX7_propsOf 70 = .ok (.iload 5, 2) := by decide +kernel
theorem dX7_propsOf_72 : decode cX7_propsOf 72 = .ok (.ireturn, 1) := by decide +kernel
theorem dX7_refuse_0 : decode cX7_refuse 0 = .ok (.aload_n 0, 1) := by decide +kernel
theorem dX7_refuse_1 : decode cX7_refuse 1 = .ok (.getfield 34, 3) := by decide +kernel
theorem dX7_refuse_4 : decode cX7_refuse 4 = .ok (.iload_n 1, 1) := by decide +kernel
theorem dX7_refuse_5 : decode cX7_refuse 5 = .ok (.ineg, 1) := by decide +kernel
theorem dX7_refuse_6 : decode cX7_refuse 6 = .ok (.dup2, 1) := by decide +kernel
theorem dX7_refuse_7 : decode cX7_refuse 7 = .ok (.iaload, 1) := by decide +kernel
theorem dX7_refuse_8 : decode cX7_refuse 8 = .ok (.iconst 1, 1) := by decide +kernel
theorem dX7_refuse_9 : decode cX7_refuse 9 = .ok (.iadd, 1) := by decide +kernel
theorem dX7_refuse_10 : decode cX7_refuse 10 = .ok (.iastore, 1) := by decide +kernel
theorem dX7_refuse_11 : decode cX7_refuse 11 = .ok (.iload_n 1, 1) := by decide +kernel
theorem dX7_refuse_12 : decode cX7_refuse 12 = .ok (.ireturn, 1) := by decide +kernel
theorem dX7_strainOf_0 : decode cX7_strainOf 0 = .ok (.aload_n 0, 1) := by decide +kernel
theorem dX7_strainOf_1 : decode cX7_strainOf 1 = .ok (.getfield 42, 3) := by decide +kernel
theorem dX7_strainOf_4 : decode cX7_strainOf 4 = .ok (.iload_n 3, 1) := by decide +kernel
theorem dX7_strainOf_5 : decode cX7_strainOf 5 = .ok (.aaload, 1) := by decide +kernel
theorem dX7_strainOf_6 : decode cX7_strainOf 6 = .ok (.iconst 2, 1) := by decide +kernel
theorem dX7_strainOf_7 : decode cX7_strainOf 7 = .ok (.iaload, 1) := by decide +kernel
theorem dX7_strainOf_8 : decode cX7_strainOf 8 = .ok (.aload_n 0, 1) := by decide +kernel
theorem dX7_strainOf_9 : decode cX7_strainOf 9 = .ok (.getfield 45, 3) := by decide +kernel
theorem dX7_strainOf_12 : decode cX7_strainOf 12 = .ok (.iload_n 1, 1) := by decide +kernel
theorem dX7_strainOf_13 : decode cX7_strainOf 13 = .ok (.aaload, 1) := by decide +kernel
theorem dX7_strainOf_14 : decode cX7_strainOf 14 = .ok (.iconst 1, 1) := by decide +kernel
theorem dX7_strainOf_15 : decode cX7_strainOf 15 = .ok (.iaload, 1) := by decide +kernel
theorem dX7_strainOf_16 : decode cX7_strainOf 16 = .ok (.idiv, 1) := by decide +kernel
theorem dX7_strainOf_17 : decode cX7_strainOf 17 = .ok (.iconst 1, 1) := by decide +kernel
theorem dX7_strainOf_18 : decode cX7_strainOf 18 = .ok (.iadd, 1) := by decide +kernel
theorem dX7_strainOf_19 : decode cX7_strainOf 19 = .ok (.istore 4, 2) := by decide +kernel
theorem dX7_strainOf_21 : decode cX7_strainOf 21 = .ok (.iload 4, 2) := by decide +kernel
theorem dX7_strainOf_23 : decode cX7_strainOf 23 = .ok (.aload_n 0, 1) := by decide +kernel
theorem dX7_strainOf_24 : decode cX7_strainOf 24 = .ok (.getfield 45, 3) := by decide +kernel
theorem dX7_strainOf_27 : decode cX7_strainOf 27 = .ok (.iload_n 1, 1) := by decide +kernel
theorem dX7_strainOf_28 : decode cX7_strainOf 28 = .ok (.aaload, 1) := by decide +kernel
theorem dX7_strainOf_29 : decode cX7_strainOf 29 = .ok (.iconst 0, 1) := by decide +kernel
theorem dX7_strainOf_30 : decode cX7_strainOf 30 = .ok (.iaload, 1) := by decide +kernel
theorem dX7_strainOf_31 : decode cX7_strainOf 31 = .ok (.if_icmp .le 14, 3) := by decide +kernel
theorem dX7_strainOf_34 : decode cX7_strainOf 34 = .ok (.aload_n 0, 1) := by decide +kernel
theorem dX7_strainOf_35 : decode cX7_strainOf 35 = .ok (.getfield 45, 3) := by decide +kernel
theorem dX7_strainOf_38 : decode cX7_strainOf 38 = .ok (.iload_n 1, 1) := by decide +kernel
theorem dX7_strainOf_39 : decode cX7_strainOf 39 = .ok (.aaload, 1) := by decide +kernel
theorem dX7_strainOf_40 : decode cX7_strainOf 40 = .ok (.iconst 0, 1) := by decide +kernel
theorem dX7_strainOf_41 : decode cX7_strainOf 41 = .ok (.iaload, 1) := by decide +kernel
theorem dX7_strainOf_42 : decode cX7_strainOf 42 = .ok (.goto 5, 3) := by decide +kernel
theorem dX7_strainOf_45 : decode cX7_strainOf 45 = .ok (.iload 4, 2) := by decide +kernel
theorem dX7_strainOf_47 : decode cX7_strainOf 47 = .ok (.istore 4, 2) := by decide +kernel
theorem dX7_strainOf_49 : decode cX7_strainOf 49 = .ok (.iload 4, 2) := by decide +kernel
theorem dX7_strainOf_51 : decode cX7_strainOf 51 = .ok (.aload_n 0, 1) := by decide +kernel
theorem dX7_strainOf_52 : decode cX7_strainOf 52 = .ok (.iload_n 1, 1) := by decide +kernel
theorem dX7_strainOf_53 : decode cX7_strainOf 53 = .ok (.iload_n 2, 1) := by decide +kernel
theorem dX7_strainOf_54 : decode cX7_strainOf 54 = .ok (.invokevirtual 263, 3) := by decide +kernel
theorem dX7_strainOf_57 : decode cX7_strainOf 57 = .ok (.imul, 1) := by decide +kernel
theorem dX7_strainOf_58 : decode cX7_strainOf 58 = .ok (.ireturn, 1) := by decide +kernel

