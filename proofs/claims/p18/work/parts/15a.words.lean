theorem q_2 : Cond.selects RX6 yX6_isBridge yX6_isBridge ∈ oh_t := oh_of (i := 2) (by decide +kernel) rfl
theorem q_3 : Cond.selects RX6 yX6_spoken yX6_spoken ∈ oh_t := oh_of (i := 3) (by decide +kernel) rfl
theorem q_5 : Cond.selects RX6 yX6_isRoad yX6_isRoad ∈ oh_t := oh_of (i := 5) (by decide +kernel) rfl
theorem q_102 : Cond.fieldLink RX6 168 "OneHeavyLoad$Land" "roads" "[I" ∈ oh_t := oh_of (i := 102) (by decide +kernel) rfl
theorem q_110 : Cond.fieldLink RX6 156 "OneHeavyLoad$Land" "settings" "[I" ∈ oh_t := oh_of (i := 110) (by decide +kernel) rfl
theorem q_151 : Cond.fieldLink RX6 213 "OneHeavyLoad$Pack" "axleLoad" "I" ∈ oh_t := oh_of (i := 151) (by decide +kernel) rfl
theorem q_169 : Cond.fieldLink RX6 203 "OneHeavyLoad$Ways" "pack" "LOneHeavyLoad$Pack;" ∈ oh_t := oh_of (i := 169) (by decide +kernel) rfl
theorem q_171 : Cond.fieldLink RX6 226 "OneHeavyLoad$Ways" "props" "[I" ∈ oh_t := oh_of (i := 171) (by decide +kernel) rfl
theorem q_199 : Cond.fieldLink RX6 109 "OneHeavyLoad$Shelves" "held" "[I" ∈ oh_t := oh_of (i := 199) (by decide +kernel) rfl
theorem q_219 : Cond.fieldLink RX6 171 "OneHeavyLoad$Tape" "size" "I" ∈ oh_t := oh_of (i := 219) (by decide +kernel) rfl
theorem q_263 : Cond.fieldLink RX6 42 "OneHeavyLoad" "tape" "LOneHeavyLoad$Tape;" ∈ oh_t := oh_of (i := 263) (by decide +kernel) rfl
theorem q_300 : Cond.methodLink RX6 74 yX3_putRow ∈ oh_t := oh_of (i := 300) (by decide +kernel) rfl
theorem q_301 : Cond.instanceMethod yX3_putRow ∈ oh_t := oh_of (i := 301) (by decide +kernel) rfl
theorem q_302 : Cond.selects RX3 yX3_putRow yX3_putRow ∈ oh_t := oh_of (i := 302) (by decide +kernel) rfl
theorem q_303 : Cond.code yX3_putRow cX3_putRow 5 none ∈ oh_t := oh_of (i := 303) (by decide +kernel) rfl
theorem q_320 : Cond.methodLink RX6 84 yX3_putElement ∈ oh_t := oh_of (i := 320) (by decide +kernel) rfl
theorem q_321 : Cond.instanceMethod yX3_putElement ∈ oh_t := oh_of (i := 321) (by decide +kernel) rfl
theorem q_322 : Cond.selects RX3 yX3_putElement yX3_putElement ∈ oh_t := oh_of (i := 322) (by decide +kernel) rfl
theorem q_323 : Cond.code yX3_putElement cX3_putElement 5 none ∈ oh_t := oh_of (i := 323) (by decide +kernel) rfl
theorem q_331 : Cond.methodLink RX6 91 yX3_holdsUnlikeRows ∈ oh_t := oh_of (i := 331) (by decide +kernel) rfl
theorem q_332 : Cond.instanceMethod yX3_holdsUnlikeRows ∈ oh_t := oh_of (i := 332) (by decide +kernel) rfl
theorem q_333 : Cond.selects RX3 yX3_holdsUnlikeRows yX3_holdsUnlikeRows ∈ oh_t := oh_of (i := 333) (by decide +kernel) rfl
theorem q_334 : Cond.code yX3_holdsUnlikeRows cX3_holdsUnlikeRows 3 (some .boolean) ∈ oh_t := oh_of (i := 334) (by decide +kernel) rfl
theorem q_341 : Cond.methodLink RX6 98 yX3_copyElements ∈ oh_t := oh_of (i := 341) (by decide +kernel) rfl
theorem q_342 : Cond.instanceMethod yX3_copyElements ∈ oh_t := oh_of (i := 342) (by decide +kernel) rfl
theorem q_343 : Cond.selects RX3 yX3_copyElements yX3_copyElements ∈ oh_t := oh_of (i := 343) (by decide +kernel) rfl
theorem q_344 : Cond.code yX3_copyElements cX3_copyElements 6 none ∈ oh_t := oh_of (i := 344) (by decide +kernel) rfl
theorem q_352 : Cond.methodLink RX6 102 yX3_holdsRow ∈ oh_t := oh_of (i := 352) (by decide +kernel) rfl
theorem q_366 : Cond.methodLink RX6 112 yX6_isBridge ∈ oh_t := oh_of (i := 366) (by decide +kernel) rfl
theorem q_368 : Cond.instanceMethod yX6_isBridge ∈ oh_t := oh_of (i := 368) (by decide +kernel) rfl
theorem q_369 : Cond.code yX6_isBridge cX6_isBridge 2 (some .boolean) ∈ oh_t := oh_of (i := 369) (by decide +kernel) rfl
theorem q_370 : Cond.methodLink RX6 115 yX3_putBridge ∈ oh_t := oh_of (i := 370) (by decide +kernel) rfl
theorem q_378 : Cond.methodLink RX6 119 yX0_mayBeTakenFor ∈ oh_t := oh_of (i := 378) (by decide +kernel) rfl
theorem q_379 : Cond.instanceMethod yX0_mayBeTakenFor ∈ oh_t := oh_of (i := 379) (by decide +kernel) rfl
theorem q_380 : Cond.selects RX0 yX0_mayBeTakenFor yX0_mayBeTakenFor ∈ oh_t := oh_of (i := 380) (by decide +kernel) rfl
theorem q_381 : Cond.code yX0_mayBeTakenFor cX0_mayBeTakenFor 3 (some .boolean) ∈ oh_t := oh_of (i := 381) (by decide +kernel) rfl
theorem q_388 : Cond.methodLink RX6 122 yX6_spoken ∈ oh_t := oh_of (i := 388) (by decide +kernel) rfl
theorem q_390 : Cond.instanceMethod yX6_spoken ∈ oh_t := oh_of (i := 390) (by decide +kernel) rfl
theorem q_391 : Cond.code yX6_spoken cX6_spoken 3 (some .int) ∈ oh_t := oh_of (i := 391) (by decide +kernel) rfl
theorem q_416 : Cond.methodLink RX6 129 yX0_hasRoom ∈ oh_t := oh_of (i := 416) (by decide +kernel) rfl
theorem q_417 : Cond.instanceMethod yX0_hasRoom ∈ oh_t := oh_of (i := 417) (by decide +kernel) rfl
theorem q_418 : Cond.selects RX0 yX0_hasRoom yX0_hasRoom ∈ oh_t := oh_of (i := 418) (by decide +kernel) rfl
theorem q_419 : Cond.code yX0_hasRoom cX0_hasRoom 2 (some .boolean) ∈ oh_t := oh_of (i := 419) (by decide +kernel) rfl
theorem q_420 : Cond.methodLink RX6 132 yX0_addRoad ∈ oh_t := oh_of (i := 420) (by decide +kernel) rfl
theorem q_421 : Cond.instanceMethod yX0_addRoad ∈ oh_t := oh_of (i := 421) (by decide +kernel) rfl
theorem q_422 : Cond.selects RX0 yX0_addRoad yX0_addRoad ∈ oh_t := oh_of (i := 422) (by decide +kernel) rfl
theorem q_423 : Cond.code yX0_addRoad cX0_addRoad 8 (some .int) ∈ oh_t := oh_of (i := 423) (by decide +kernel) rfl
theorem q_428 : Cond.methodLink RX6 136 yX6_isRoad ∈ oh_t := oh_of (i := 428) (by decide +kernel) rfl
theorem q_430 : Cond.instanceMethod yX6_isRoad ∈ oh_t := oh_of (i := 430) (by decide +kernel) rfl
theorem q_431 : Cond.code yX6_isRoad cX6_isRoad 2 (some .boolean) ∈ oh_t := oh_of (i := 431) (by decide +kernel) rfl
theorem q_432 : Cond.methodLink RX6 139 yX0_addBridge ∈ oh_t := oh_of (i := 432) (by decide +kernel) rfl
theorem q_433 : Cond.instanceMethod yX0_addBridge ∈ oh_t := oh_of (i := 433) (by decide +kernel) rfl
theorem q_434 : Cond.selects RX0 yX0_addBridge yX0_addBridge ∈ oh_t := oh_of (i := 434) (by decide +kernel) rfl
theorem q_435 : Cond.code yX0_addBridge cX0_addBridge 8 (some .int) ∈ oh_t := oh_of (i := 435) (by decide +kernel) rfl
theorem q_440 : Cond.methodLink RX6 143 yX0_putProp ∈ oh_t := oh_of (i := 440) (by decide +kernel) rfl
theorem q_441 : Cond.instanceMethod yX0_putProp ∈ oh_t := oh_of (i := 441) (by decide +kernel) rfl
theorem q_442 : Cond.selects RX0 yX0_putProp yX0_putProp ∈ oh_t := oh_of (i := 442) (by decide +kernel) rfl
theorem q_443 : Cond.code yX0_putProp cX0_putProp 4 none ∈ oh_t := oh_of (i := 443) (by decide +kernel) rfl
theorem q_452 : Cond.methodLink RX6 146 yX0_addWaggon ∈ oh_t := oh_of (i := 452) (by decide +kernel) rfl
theorem q_453 : Cond.instanceMethod yX0_addWaggon ∈ oh_t := oh_of (i := 453) (by decide +kernel) rfl
theorem q_454 : Cond.selects RX0 yX0_addWaggon yX0_addWaggon ∈ oh_t := oh_of (i := 454) (by decide +kernel) rfl
theorem q_455 : Cond.code yX0_addWaggon cX0_addWaggon 5 (some .int) ∈ oh_t := oh_of (i := 455) (by decide +kernel) rfl
theorem q_460 : Cond.methodLink RX6 150 yX0_addPart ∈ oh_t := oh_of (i := 460) (by decide +kernel) rfl
theorem q_461 : Cond.instanceMethod yX0_addPart ∈ oh_t := oh_of (i := 461) (by decide +kernel) rfl
theorem q_462 : Cond.selects RX0 yX0_addPart yX0_addPart ∈ oh_t := oh_of (i := 462) (by decide +kernel) rfl
theorem q_463 : Cond.code yX0_addPart cX0_addPart 4 (some .int) ∈ oh_t := oh_of (i := 463) (by decide +kernel) rfl
theorem q_468 : Cond.fieldLink RX6 153 "OneHeavyLoad" "MAX_SETTING" "[I" ∈ oh_t := oh_of (i := 468) (by decide +kernel) rfl
theorem q_479 : Cond.methodLink RX6 165 yX0_ofRoad ∈ oh_t := oh_of (i := 479) (by decide +kernel) rfl
theorem q_683 : Cond.methodLink RX6 197 yX0_waggonLength ∈ oh_t := oh_of (i := 683) (by decide +kernel) rfl
theorem q_703 : Cond.methodLink RX6 207 yX1_take ∈ oh_t := oh_of (i := 703) (by decide +kernel) rfl
theorem q_723 : Cond.methodLink RX6 216 yX1_strainOn ∈ oh_t := oh_of (i := 723) (by decide +kernel) rfl
theorem q_737 : Cond.methodLink RX6 219 yX1_needsOf ∈ oh_t := oh_of (i := 737) (by decide +kernel) rfl
theorem q_750 : Cond.methodLink RX6 223 yX5_survey ∈ oh_t := oh_of (i := 750) (by decide +kernel) rfl
theorem q_758 : Cond.methodLink RX6 229 yX5_engines ∈ oh_t := oh_of (i := 758) (by decide +kernel) rfl
theorem q_762 : Cond.methodLink RX6 232 yX5_coinOf ∈ oh_t := oh_of (i := 762) (by decide +kernel) rfl
theorem q_767 : Cond.methodLink RX6 235 yX5_daysOf ∈ oh_t := oh_of (i := 767) (by decide +kernel) rfl
theorem q_857 : Cond.constant RJ6 265 1431655765 ∈ oh_t := oh_of (i := 857) (by decide +kernel) rfl
theorem q_858 : Cond.constant RJ6 266 858993459 ∈ oh_t := oh_of (i := 858) (by decide +kernel) rfl
theorem q_859 : Cond.constant RJ6 267 252645135 ∈ oh_t := oh_of (i := 859) (by decide +kernel) rfl
theorem pdVX0_addBridge : yX0_addBridge.cls = RX0 ∧ yX0_addBridge.cls ≠ "java/lang/invoke/MethodHandle" ∧ yX0_addBridge.cls ≠ "java/lang/invoke/VarHandle" ∧ (parseMethodDescriptor yX0_addBridge.desc).map (fun d => d.parameters.length) = some 5 := by decide +kernel
theorem pdVX0_addPart : yX0_addPart.cls = RX0 ∧ yX0_addPart.cls ≠ "java/lang/invoke/MethodHandle" ∧ yX0_addPart.cls ≠ "java/lang/invoke/VarHandle" ∧ (parseMethodDescriptor yX0_addPart.desc).map (fun d => d.parameters.length) = some 2 := by decide +kernel
theorem pdVX0_addRoad : yX0_addRoad.cls = RX0 ∧ yX0_addRoad.cls ≠ "java/lang/invoke/MethodHandle" ∧ yX0_addRoad.cls ≠ "java/lang/invoke/VarHandle" ∧ (parseMethodDescriptor yX0_addRoad.desc).map (fun d => d.parameters.length) = some 6 := by decide +kernel
theorem pdVX0_addWaggon : yX0_addWaggon.cls = RX0 ∧ yX0_addWaggon.cls ≠ "java/lang/invoke/MethodHandle" ∧ yX0_addWaggon.cls ≠ "java/lang/invoke/VarHandle" ∧ (parseMethodDescriptor yX0_addWaggon.desc).map (fun d => d.parameters.length) = some 3 := by decide +kernel
theorem pdVX0_hasRoom : yX0_hasRoom.cls = RX0 ∧ yX0_hasRoom.cls ≠ "java/lang/invoke/MethodHandle" ∧ yX0_hasRoom.cls ≠ "java/lang/invoke/VarHandle" ∧ (parseMethodDescriptor yX0_hasRoom.desc).map (fun d => d.parameters.length) = some 1 := by decide +kernel
theorem pdVX0_mayBeTakenFor : yX0_mayBeTakenFor.cls = RX0 ∧ yX0_mayBeTakenFor.cls ≠ "java/lang/invoke/MethodHandle" ∧ yX0_mayBeTakenFor.cls ≠ "java/lang/invoke/VarHandle" ∧ (parseMethodDescriptor yX0_mayBeTakenFor.desc).map (fun d => d.parameters.length) = some 2 := by decide +kernel
theorem pdVX0_putProp : yX0_putProp.cls = RX0 ∧ yX0_putProp.cls ≠ "java/lang/invoke/MethodHandle" ∧ yX0_putProp.cls ≠ "java/lang/invoke/VarHandle" ∧ (parseMethodDescriptor yX0_putProp.desc).map (fun d => d.parameters.length) = some 3 := by decide +kernel
theorem pdVX3_copyElements : yX3_copyElements.cls = RX3 ∧ yX3_copyElements.cls ≠ "java/lang/invoke/MethodHandle" ∧ yX3_copyElements.cls ≠ "java/lang/invoke/VarHandle" ∧ (parseMethodDescriptor yX3_copyElements.desc).map (fun d => d.parameters.length) = some 5 := by decide +kernel
theorem pdVX3_holdsUnlikeRows : yX3_holdsUnlikeRows.cls = RX3 ∧ yX3_holdsUnlikeRows.cls ≠ "java/lang/invoke/MethodHandle" ∧ yX3_holdsUnlikeRows.cls ≠ "java/lang/invoke/VarHandle" ∧ (parseMethodDescriptor yX3_holdsUnlikeRows.desc).map (fun d => d.parameters.length) = some 2 := by decide +kernel
theorem pdVX3_putElement : yX3_putElement.cls = RX3 ∧ yX3_putElement.cls ≠ "java/lang/invoke/MethodHandle" ∧ yX3_putElement.cls ≠ "java/lang/invoke/VarHandle" ∧ (parseMethodDescriptor yX3_putElement.desc).map (fun d => d.parameters.length) = some 3 := by decide +kernel
theorem pdVX3_putRow : yX3_putRow.cls = RX3 ∧ yX3_putRow.cls ≠ "java/lang/invoke/MethodHandle" ∧ yX3_putRow.cls ≠ "java/lang/invoke/VarHandle" ∧ (parseMethodDescriptor yX3_putRow.desc).map (fun d => d.parameters.length) = some 3 := by decide +kernel
theorem pdVX6_isBridge : yX6_isBridge.cls = RX6 ∧ yX6_isBridge.cls ≠ "java/lang/invoke/MethodHandle" ∧ yX6_isBridge.cls ≠ "java/lang/invoke/VarHandle" ∧ (parseMethodDescriptor yX6_isBridge.desc).map (fun d => d.parameters.length) = some 1 := by decide +kernel
theorem pdVX6_isRoad : yX6_isRoad.cls = RX6 ∧ yX6_isRoad.cls ≠ "java/lang/invoke/MethodHandle" ∧ yX6_isRoad.cls ≠ "java/lang/invoke/VarHandle" ∧ (parseMethodDescriptor yX6_isRoad.desc).map (fun d => d.parameters.length) = some 1 := by decide +kernel
theorem pdVX6_spoken : yX6_spoken.cls = RX6 ∧ yX6_spoken.cls ≠ "java/lang/invoke/MethodHandle" ∧ yX6_spoken.cls ≠ "java/lang/invoke/VarHandle" ∧ (parseMethodDescriptor yX6_spoken.desc).map (fun d => d.parameters.length) = some 2 := by decide +kernel
theorem dJ6_bitCount_0f7a4_0 : decode cJ6_bitCount_0f7a4 0 = .ok (.iload_n 0, 1) := by decide +kernel
theorem dJ6_bitCount_0f7a4_1 : decode cJ6_bitCount_0f7a4 1 = .ok (.iload_n 0, 1) := by decide +kernel
theorem dJ6_bitCount_0f7a4_2 : decode cJ6_bitCount_0f7a4 2 = .ok (.iconst 1, 1) := by decide +kernel
theorem dJ6_bitCount_0f7a4_3 : decode cJ6_bitCount_0f7a4 3 = .ok (.iushr, 1) := by decide +kernel
theorem dJ6_bitCount_0f7a4_4 : decode cJ6_bitCount_0f7a4 4 = .ok (.ldc_w 265, 3) := by decide +kernel
theorem dJ6_bitCount_0f7a4_7 : decode cJ6_bitCount_0f7a4 7 = .ok (.iand, 1) := by decide +kernel
theorem dJ6_bitCount_0f7a4_8 : decode cJ6_bitCount_0f7a4 8 = .ok (.isub, 1) := by decide +kernel
theorem dJ6_bitCount_0f7a4_9 : decode cJ6_bitCount_0f7a4 9 = .ok (.istore_n 0, 1) := by decide +kernel
theorem dJ6_bitCount_0f7a4_10 : decode cJ6_bitCount_0f7a4 10 = .ok (.iload_n 0, 1) := by decide +kernel
theorem dJ6_bitCount_0f7a4_11 : decode cJ6_bitCount_0f7a4 11 = .ok (.ldc_w 266, 3) := by decide +kernel
theorem dJ6_bitCount_0f7a4_14 : decode cJ6_bitCount_0f7a4 14 = .ok (.iand, 1) := by decide +kernel
theorem dJ6_bitCount_0f7a4_15 : decode cJ6_bitCount_0f7a4 15 = .ok (.iload_n 0, 1) := by decide +kernel
theorem dJ6_bitCount_0f7a4_16 : decode cJ6_bitCount_0f7a4 16 = .ok (.iconst 2, 1) := by decide +kernel
theorem dJ6_bitCount_0f7a4_17 : decode cJ6_bitCount_0f7a4 17 = .ok (.iushr, 1) := by decide +kernel
theorem dJ6_bitCount_0f7a4_18 : decode cJ6_bitCount_0f7a4 18 = .ok (.ldc_w 266, 3) := by decide +kernel
theorem dJ6_bitCount_0f7a4_21 : decode cJ6_bitCount_0f7a4 21 = .ok (.iand, 1) := by decide +kernel
theorem dJ6_bitCount_0f7a4_22 : decode cJ6_bitCount_0f7a4 22 = .ok (.iadd, 1) := by decide +kernel
theorem dJ6_bitCount_0f7a4_23 : decode cJ6_bitCount_0f7a4 23 = .ok (.istore_n 0, 1) := by decide +kernel
theorem dJ6_bitCount_0f7a4_24 : decode cJ6_bitCount_0f7a4 24 = .ok (.iload_n 0, 1) := by decide +kernel
theorem dJ6_bitCount_0f7a4_25 : decode cJ6_bitCount_0f7a4 25 = .ok (.iload_n 0, 1) := by decide +kernel
theorem dJ6_bitCount_0f7a4_26 : decode cJ6_bitCount_0f7a4 26 = .ok (.iconst 4, 1) := by decide +kernel
theorem dJ6_bitCount_0f7a4_27 : decode cJ6_bitCount_0f7a4 27 = .ok (.iushr, 1) := by decide +kernel
theorem dJ6_bitCount_0f7a4_28 : decode cJ6_bitCount_0f7a4 28 = .ok (.iadd, 1) := by decide +kernel
theorem dJ6_bitCount_0f7a4_29 : decode cJ6_bitCount_0f7a4 29 = .ok (.ldc_w 267, 3) := by decide +kernel
theorem dJ6_bitCount_0f7a4_32 : decode cJ6_bitCount_0f7a4 32 = .ok (.iand, 1) := by decide +kernel
theorem dJ6_bitCount_0f7a4_33 : decode cJ6_bitCount_0f7a4 33 = .ok (.istore_n 0, 1) := by decide +kernel
theorem dJ6_bitCount_0f7a4_34 : decode cJ6_bitCount_0f7a4 34 = .ok (.iload_n 0, 1) := by decide +kernel
theorem dJ6_bitCount_0f7a4_35 : decode cJ6_bitCount_0f7a4 35 = .ok (.iload_n 0, 1) := by decide +kernel
theorem dJ6_bitCount_0f7a4_36 : decode cJ6_bitCount_0f7a4 36 = .ok (.bipush 8, 2) := by decide +kernel
theorem dJ6_bitCount_0f7a4_38 : decode cJ6_bitCount_0f7a4 38 = .ok (.iushr, 1) := by decide +kernel
theorem dJ6_bitCount_0f7a4_39 : decode cJ6_bitCount_0f7a4 39 = .ok (.iadd, 1) := by decide +kernel
theorem dJ6_bitCount_0f7a4_40 : decode cJ6_bitCount_0f7a4 40 = .ok (.istore_n 0, 1) := by decide +kernel
theorem dJ6_bitCount_0f7a4_41 : decode cJ6_bitCount_0f7a4 41 = .ok (.iload_n 0, 1) := by decide +kernel
theorem dJ6_bitCount_0f7a4_42 : decode cJ6_bitCount_0f7a4 42 = .ok (.iload_n 0, 1) := by decide +kernel
theorem dJ6_bitCount_0f7a4_43 : decode cJ6_bitCount_0f7a4 43 = .ok (.bipush 16, 2) := by decide +kernel
theorem dJ6_bitCount_0f7a4_45 : decode cJ6_bitCount_0f7a4 45 = .ok (.iushr, 1) := by decide +kernel
theorem dJ6_bitCount_0f7a4_46 : decode cJ6_bitCount_0f7a4 46 = .ok (.iadd, 1) := by decide +kernel
theorem dJ6_bitCount_0f7a4_47 : decode cJ6_bitCount_0f7a4 47 = .ok (.istore_n 0, 1) := by decide +kernel
theorem dJ6_bitCount_0f7a4_48 : decode cJ6_bitCount_0f7a4 48 = .ok (.iload_n 0, 1) := by decide +kernel
theorem dJ6_bitCount_0f7a4_49 : decode cJ6_bitCount_0f7a4 49 = .ok (.bipush 63, 2) := by decide +kernel
theorem dJ6_bitCount_0f7a4_51 : decode cJ6_bitCount_0f7a4 51 = .ok (.iand, 1) := by decide +kernel
theorem dJ6_bitCount_0f7a4_52 : decode cJ6_bitCount_0f7a4 52 = .ok (.ireturn, 1) := by decide +kernel
theorem dX6_ask_0 : decode cX6_ask 0 = .ok (.iload_n 1, 1) := by decide +kernel
theorem dX6_ask_1 : decode cX6_ask 1 = .ok (.iconst 0, 1) := by decide +kernel
theorem dX6_ask_2 : decode cX6_ask 2 = .ok (.iconst 2, 1) := by decide +kernel
theorem dX6_ask_3 : decode cX6_ask 3 = .ok (.invokestatic 66, 3) := by decide +kernel
theorem dX6_ask_6 : decode cX6_ask 6 = .ok (.ifCond .eq 16, 3) := by decide +kernel
theorem dX6_ask_9 : decode cX6_ask 9 = .ok (.iload_n 2, 1) := by decide +kernel
theorem dX6_ask_10 : decode cX6_ask 10 = .ok (.iconst 0, 1) := by decide +kernel
theorem dX6_ask_11 : decode cX6_ask 11 = .ok (.getstatic 153, 3) := by decide +kernel
theorem dX6_ask_14 : decode cX6_ask 14 = .ok (.iload_n 1, 1) := by decide +kernel
theorem dX6_ask_15 : decode cX6_ask 15 = .ok (.iaload, 1) := by decide +kernel
theorem dX6_ask_16 : decode cX6_ask 16 = .ok (.invokestatic 66, 3) := by decide +kernel
theorem dX6_ask_19 : decode cX6_ask 19 = .ok (.ifCond .ne 10, 3) := by decide +kernel
theorem dX6_ask_22 : decode cX6_ask 22 = .ok (.aload_n 0, 1) := by decide +kernel
theorem dX6_ask_23 : decode cX6_ask 23 = .ok (.bipush (-2), 2) := by decide +kernel
theorem dX6_ask_25 : decode cX6_ask 25 = .ok (.invokevirtual 70, 3) := by decide +kernel
theorem dX6_ask_28 : decode cX6_ask 28 = .ok (.ireturn, 1) := by decide +kernel
theorem dX6_ask_29 : decode cX6_ask 29 = .ok (.aload_n 0, 1) := by decide +kernel
theorem dX6_ask_30 : decode cX6_ask 30 = .ok (.getfield 10, 3) := by decide +kernel
theorem dX6_ask_33 : decode cX6_ask 33 = .ok (.getfield 156, 3) := by decide +kernel
theorem dX6_ask_36 : decode cX6_ask 36 = .ok (.iload_n 1, 1) := by decide +kernel
theorem dX6_ask_37 : decode cX6_ask 37 = .ok (.iaload, 1) := by decide +kernel
theorem dX6_ask_38 : decode cX6_ask 38 = .ok (.istore_n 3, 1) := by decide +kernel
theorem dX6_ask_39 : decode cX6_ask 39 = .ok (.aload_n 0, 1) := by decide +kernel
theorem dX6_ask_40 : decode cX6_ask 40 = .ok (.getfield 10, 3) := by decide +kernel
theorem dX6_ask_43 : decode cX6_ask 43 = .ok (.getfield 156, 3) := by decide +kernel
theorem dX6_ask_46 : decode cX6_ask 46 = .ok (.iload_n 1, 1) := by decide +kernel
theorem dX6_ask_47 : decode cX6_ask 47 = .ok (.iload_n 2, 1) := by decide +kernel
theorem dX6_ask_48 : decode cX6_ask 48 = .ok (.iastore, 1) := by decide +kernel
theorem dX6_ask_49 : decode cX6_ask 49 = .ok (.iload_n 3, 1) := by decide +kernel
theorem dX6_ask_50 : decode cX6_ask 50 = .ok (.ireturn, 1) := by decide +kernel
theorem dX6_axle_0 : decode cX6_axle 0 = .ok (.aload_n 0, 1) := by decide +kernel
theorem dX6_axle_1 : decode cX6_axle 1 = .ok (.iload_n 1, 1) := by decide +kernel
theorem dX6_axle_2 : decode cX6_axle 2 = .ok (.iload_n 2, 1) := by decide +kernel
theorem dX6_axle_3 : decode cX6_axle 3 = .ok (.invokevirtual 200, 3) := by decide +kernel
theorem dX6_axle_6 : decode cX6_axle 6 = .ok (.ifCond .ne 10, 3) := by decide +kernel
theorem dX6_axle_9 : decode cX6_axle 9 = .ok (.aload_n 0, 1) := by decide +kernel
theorem dX6_axle_10 : decode cX6_axle 10 = .ok (.bipush (-2), 2) := by decide +kernel
theorem dX6_axle_12 : decode cX6_axle 12 = .ok (.invokevirtual 70, 3) := by decide +kernel
theorem dX6_axle_15 : decode cX6_axle 15 = .ok (.ireturn, 1) := by decide +kernel
theorem dX6_axle_16 : decode cX6_axle 16 = .ok (.aload_n 0, 1) := by decide +kernel
theorem dX6_axle_17 : decode cX6_axle 17 = .ok (.getfield 28, 3) := by decide +kernel
theorem dX6_axle_20 : decode cX6_axle 20 = .ok (.getfield 203, 3) := by decide +kernel
theorem dX6_axle_23 : decode cX6_axle 23 = .ok (.aload_n 0, 1) := by decide +kernel
theorem dX6_axle_24 : decode cX6_axle 24 = .ok (.getfield 10, 3) := by decide +kernel
theorem dX6_axle_27 : decode cX6_axle 27 = .ok (.iload_n 1, 1) := by decide +kernel
theorem dX6_axle_28 : decode cX6_axle 28 = .ok (.iload_n 2, 1) := by decide +kernel
theorem dX6_axle_29 : decode cX6_axle 29 = .ok (.invokevirtual 207, 3) := by decide +kernel
theorem dX6_axle_32 : decode cX6_axle 32 = .ok (.aload_n 0, 1) := by decide +kernel
theorem dX6_axle_33 : decode cX6_axle 33 = .ok (.getfield 28, 3) := by decide +kernel
theorem dX6_axle_36 : decode cX6_axle 36 = .ok (.getfield 203, 3) := by decide +kernel
theorem dX6_axle_39 : decode cX6_axle 39 = .ok (.getfield 213, 3) := by decide +kernel
theorem dX6_axle_42 : decode cX6_axle 42 = .ok (.ireturn, 1) := by decide +kernel
theorem dX6_bears_0 : decode cX6_bears 0 = .ok (.aload_n 0, 1) := by decide +kernel
theorem dX6_bears_1 : decode cX6_bears 1 = .ok (.iload_n 1, 1) := by decide +kernel
theorem dX6_bears_2 : decode cX6_bears 2 = .ok (.invokevirtual 112, 3) := by decide +kernel
theorem dX6_bears_5 : decode cX6_bears 5 = .ok (.ifCond .ne 10, 3) := by decide +kernel
theorem dX6_bears_8 : decode cX6_bears 8 = .ok (.aload_n 0, 1) := by decide +kernel
theorem dX6_bears_9 : decode cX6_bears 9 = .ok (.bipush (-2), 2) := by decide +kernel
theorem dX6_bears_11 : decode cX6_bears 11 = .ok (.invokevirtual 70, 3) := by decide +kernel
theorem dX6_bears_14 : decode cX6_bears 14 = .ok (.ireturn, 1) := by decide +kernel
theorem dX6_bears_15 : decode cX6_bears 15 = .ok (.iload_n 2, 1) := by decide +kernel
theorem dX6_bears_16 : decode cX6_bears 16 = .ok (.ifCond .eq 22, 3) := by decide +kernel
theorem dX6_bears_19 : decode cX6_bears 19 = .ok (.aload_n 0, 1) := by decide +kernel
theorem dX6_bears_20 : decode cX6_bears 20 = .ok (.getfield 10, 3) := by decide +kernel
theorem dX6_bears_23 : decode cX6_bears 23 = .ok (.iload_n 1, 1) := by decide +kernel
theorem dX6_bears_24 : decode cX6_bears 24 = .ok (.aload_n 0, 1) := by decide +kernel
theorem dX6_bears_25 : decode cX6_bears 25 = .ok (.getfield 10, 3) := by decide +kernel
theorem dX6_bears_28 : decode cX6_bears 28 = .ok (.iload_n 1, 1) := by decide +kernel
theorem dX6_bears_29 : decode cX6_bears 29 = .ok (.invokevirtual 184, 3) := by decide +kernel
theorem dX6_bears_32 : decode cX6_bears 32 = .ok (.invokevirtual 187, 3) := by decide +kernel
theorem dX6_bears_35 : decode cX6_bears 35 = .ok (.goto 11, 3) := by decide +kernel
theorem dX6_bears_38 : decode cX6_bears 38 = .ok (.aload_n 0, 1) := by decide +kernel
theorem dX6_bears_39 : decode cX6_bears 39 = .ok (.getfield 10, 3) := by decide +kernel
theorem dX6_bears_42 : decode cX6_bears 42 = .ok (.iload_n 1, 1) := by decide +kernel
theorem dX6_bears_43 : decode cX6_bears 43 = .ok (.invokevirtual 191, 3) := by decide +kernel
theorem dX6_bears_46 : decode cX6_bears 46 = .ok (.ireturn, 1) := by decide +kernel
theorem dX6_bridge_0 : decode cX6_bridge 0 = .ok (.aload_n 0, 1) := by decide +kernel
theorem dX6_bridge_1 : decode cX6_bridge 1 = .ok (.iload_n 1, 1) := by decide +kernel
theorem dX6_bridge_2 : decode cX6_bridge 2 = .ok (.invokevirtual 136, 3) := by decide +kernel
theorem dX6_bridge_5 : decode cX6_bridge 5 = .ok (.ifCond .eq 45, 3) := by decide +kernel
theorem dX6_bridge_8 : decode cX6_bridge 8 = .ok (.iload_n 2, 1) := by decide +kernel
theorem dX6_bridge_9 : decode cX6_bridge 9 = .ok (.iconst 0, 1) := by decide +kernel
theorem dX6_bridge_10 : decode cX6_bridge 10 = .ok (.iconst 5, 1) := by decide +kernel
theorem dX6_bridge_11 : decode cX6_bridge 11 = .ok (.invokestatic 66, 3) := by decide +kernel
theorem dX6_bridge_14 : decode cX6_bridge 14 = .ok (.ifCond .eq 36, 3) := by decide +kernel
theorem dX6_bridge_17 : decode cX6_bridge 17 = .ok (.iload_n 3, 1) := by decide +kernel
theorem dX6_bridge_18 : decode cX6_bridge 18 = .ok (.iconst 0, 1) := by decide +kernel
theorem dX6_bridge_19 : decode cX6_bridge 19 = .ok (.bipush 60, 2) := by decide +kernel
theorem dX6_bridge_21 : decode cX6_bridge 21 = .ok (.invokestatic 66, 3) := by decide +kernel
theorem dX6_bridge_24 : decode cX6_bridge 24 = .ok (.ifCond .eq 26, 3) := by decide +kernel
theorem dX6_bridge_27 : decode cX6_bridge 27 = .ok (.iload 4, 2) := by decide +kernel
theorem dX6_bridge_29 : decode cX6_bridge 29 = .ok (.iconst 1, 1) := by decide +kernel
theorem dX6_bridge_30 : decode cX6_bridge 30 = .ok (.bipush 99, 2) := by decide +kernel
theorem dX6_bridge_32 : decode cX6_bridge 32 = .ok (.invokestatic 66, 3) := by decide +kernel
theorem dX6_bridge_35 : decode cX6_bridge 35 = .ok (.ifCond .eq 15, 3) := by decide +kernel
theorem dX6_bridge_38 : decode cX6_bridge 38 = .ok (.iload 5, 2) := by decide +kernel
theorem dX6_bridge_40 : decode cX6_bridge 40 = .ok (.iconst 1, 1) := by decide +kernel
theorem dX6_bridge_41 : decode cX6_bridge 41 = .ok (.sipush 999, 3) := by decide +kernel
theorem dX6_bridge_44 : decode cX6_bridge 44 = .ok (.invokestatic 66, 3) := by decide +kernel
theorem dX6_bridge_47 : decode cX6_bridge 47 = .ok (.ifCond .ne 10, 3) := by decide +kernel
theorem dX6_bridge_50 : decode cX6_bridge 50 = .ok (.aload_n 0, 1) := by decide +kernel
theorem dX6_bridge_51 : decode cX6_bridge 51 = .ok (.bipush (-2), 2) := by decide +kernel
theorem dX6_bridge_53 : decode cX6_bridge 53 = .ok (.invokevirtual 70, 3) := by decide +kernel
theorem dX6_bridge_56 : decode cX6_bridge 56 = .ok (.ireturn, 1) := by decide +kernel
theorem dX6_bridge_57 : decode cX6_bridge 57 = .ok (.aload_n 0, 1) := by decide +kernel
theorem dX6_bridge_58 : decode cX6_bridge 58 = .ok (.getfield 10, 3) := by decide +kernel
theorem dX6_bridge_61 : decode cX6_bridge 61 = .ok (.iconst 1, 1) := by decide +kernel
theorem dX6_bridge_62 : decode cX6_bridge 62 = .ok (.invokevirtual 129, 3) := by decide +kernel
theorem dX6_bridge_65 : decode cX6_bridge 65 = .ok (.ifCond .ne 10, 3) := by decide +kernel
theorem dX6_bridge_68 : decode cX6_bridge 68 = .ok (.aload_n 0, 1) := by decide +kernel
theorem dX6_bridge_69 : decode cX6_bridge 69 = .ok (.bipush (-6), 2) := by decide +kernel
theorem dX6_bridge_71 : decode cX6_bridge 71 = .ok (.invokevirtual 70, 3) := by decide +kernel
theorem dX6_bridge_74 : decode cX6_bridge 74 = .ok (.ireturn, 1) := by decide +kernel
theorem dX6_bridge_75 : decode cX6_bridge 75 = .ok (.aload_n 0, 1) := by decide +kernel
theorem dX6_bridge_76 : decode cX6_bridge 76 = .ok (.getfield 10, 3) := by decide +kernel
theorem dX6_bridge_79 : decode cX6_bridge 79 = .ok (.iload_n 1, 1) := by decide +kernel
theorem dX6_bridge_80 : decode cX6_bridge 80 = .ok (.iload_n 2, 1) := by decide +kernel
theorem dX6_bridge_81 : decode cX6_bridge 81 = .ok (.iload_n 3, 1) := by decide +kernel
theorem dX6_bridge_82 : decode cX6_bridge 82 = .ok (.iload 4, 2) := by decide +kernel
theorem dX6_bridge_84 : decode cX6_bridge 84 = .ok (.iload 5, 2) := by decide +kernel
theorem dX6_bridge_86 : decode cX6_bridge 86 = .ok (.invokevirtual 139, 3) := by decide +kernel
theorem dX6_bridge_89 : decode cX6_bridge 89 = .ok (.ireturn, 1) := by decide +kernel
theorem dX6_bridgeOf_0 : decode cX6_bridgeOf 0 = .ok (.aload_n 0, 1) := by decide +kernel
theorem dX6_bridgeOf_1 : decode cX6_bridgeOf 1 = .ok (.iload_n 1, 1) := by decide +kernel
theorem dX6_bridgeOf_2 : decode cX6_bridgeOf 2 = .ok (.invokevirtual 112, 3) := by decide +kernel
theorem dX6_bridgeOf_5 : decode cX6_bridgeOf 5 = .ok (.ifCond .eq 13, 3) := by decide +kernel
theorem dX6_bridgeOf_8 : decode cX6_bridgeOf 8 = .ok (.iload_n 2, 1) := by decide +kernel
theorem dX6_bridgeOf_9 : decode cX6_bridgeOf 9 = .ok (.iconst 0, 1) := by decide +kernel
theorem dX6_bridgeOf_10 : decode cX6_bridgeOf 10 = .ok (.bipush 9, 2) := by decide +kernel
theorem dX6_bridgeOf_12 : decode cX6_bridgeOf 12 = .ok (.invokestatic 66, 3) := by decide +kernel
theorem dX6_bridgeOf_15 : decode cX6_bridgeOf 15 = .ok (.ifCond .ne 10, 3) := by decide +kernel
theorem dX6_bridgeOf_18 : decode cX6_bridgeOf 18 = .ok (.aload_n 0, 1) := by decide +kernel
theorem dX6_bridgeOf_19 : decode cX6_bridgeOf 19 = .ok (.bipush (-2), 2) := by decide +kernel
theorem dX6_bridgeOf_21 : decode cX6_bridgeOf 21 = .ok (.invokevirtual 70, 3) := by decide +kernel
theorem dX6_bridgeOf_24 : decode cX6_bridgeOf 24 = .ok (.ireturn, 1) := by decide +kernel
theorem dX6_bridgeOf_25 : decode cX6_bridgeOf 25 = .ok (.aload_n 0, 1) := by decide +kernel
theorem dX6_bridgeOf_26 : decode cX6_bridgeOf 26 = .ok (.getfield 10, 3) := by decide +kernel
theorem dX6_bridgeOf_29 : decode cX6_bridgeOf 29 = .ok (.iload_n 1, 1) := by decide +kernel
theorem dX6_bridgeOf_30 : decode cX6_bridgeOf 30 = .ok (.iload_n 2, 1) := by decide +kernel
theorem dX6_bridgeOf_31 : decode cX6_bridgeOf 31 = .ok (.invokevirtual 159, 3) := by decide +kernel
theorem dX6_bridgeOf_34 : decode cX6_bridgeOf 34 = .ok (.ireturn, 1) := by decide +kernel
theorem dX6_copy_0 : decode cX6_copy 0 = .ok (.iload_n 1, 1) := by decide +kernel
theorem dX6_copy_1 : decode cX6_copy 1 = .ok (.invokestatic 62, 3) := by decide +kernel
theorem dX6_copy_4 : decode cX6_copy 4 = .ok (.ifCond .eq 10, 3) := by decide +kernel
theorem dX6_copy_7 : decode cX6_copy 7 = .ok (.iload_n 2, 1) := by decide +kernel
theorem dX6_copy_8 : decode cX6_copy 8 = .ok (.invokestatic 62, 3) := by decide +kernel
theorem dX6_copy_11 : decode cX6_copy 11 = .ok (.ifCond .ne 10, 3) := by decide +kernel
theorem dX6_copy_14 : decode cX6_copy 14 = .ok (.aload_n 0, 1) := by decide +kernel
theorem dX6_copy_15 : decode cX6_copy 15 = .ok (.bipush (-2), 2) := by decide +kernel
theorem dX6_copy_17 : decode cX6_copy 17 = .ok (.invokevirtual 70, 3) := by decide +kernel
theorem dX6_copy_20 : decode cX6_copy 20 = .ok (.ireturn, 1) := by decide +kernel
theorem dX6_copy_21 : decode cX6_copy 21 = .ok (.aload_n 0, 1) := by decide +kernel
theorem dX6_copy_22 : decode cX6_copy 22 = .ok (.getfield 35, 3) := by decide +kernel
theorem dX6_copy_25 : decode cX6_copy 25 = .ok (.iload_n 1, 1) := by decide +kernel
theorem dX6_copy_26 : decode cX6_copy 26 = .ok (.invokevirtual 88, 3) := by decide +kernel
theorem dX6_copy_29 : decode cX6_copy 29 = .ok (.ifCond .ne 26, 3) := by decide +kernel
theorem dX6_copy_32 : decode cX6_copy 32 = .ok (.aload_n 0, 1) := by decide +kernel
theorem dX6_copy_33 : decode cX6_copy 33 = .ok (.getfield 35, 3) := by decide +kernel
theorem dX6_copy_36 : decode cX6_copy 36 = .ok (.iload_n 2, 1) := by decide +kernel
theorem dX6_copy_37 : decode cX6_copy 37 = .ok (.invokevirtual 88, 3) := by decide +kernel
theorem dX6_copy_40 : decode cX6_copy 40 = .ok (.ifCond .ne 15, 3) := by decide +kernel
theorem dX6_copy_43 : decode cX6_copy 43 = .ok (.aload_n 0, 1) := by decide +kernel
theorem dX6_copy_44 : decode cX6_copy 44 = .ok (.getfield 35, 3) := by decide +kernel
theorem dX6_copy_47 : decode cX6_copy 47 = .ok (.iload_n 1, 1) := by decide +kernel
theorem dX6_copy_48 : decode cX6_copy 48 = .ok (.iload_n 2, 1) := by decide +kernel
theorem dX6_copy_49 : decode cX6_copy 49 = .ok (.invokevirtual 91, 3) := by decide +kernel
theorem dX6_copy_52 : decode cX6_copy 52 = .ok (.ifCond .eq 10, 3) := by decide +kernel
theorem dX6_copy_55 : decode cX6_copy 55 = .ok (.aload_n 0, 1) := by decide +kernel
theorem dX6_copy_56 : decode cX6_copy 56 = .ok (.bipush (-3), 2) := by decide +kernel
theorem dX6_copy_58 : decode cX6_copy 58 = .ok (.invokevirtual 70, 3) := by decide +kernel
theorem dX6_copy_61 : decode cX6_copy 61 = .ok (.ireturn, 1) := by decide +kernel
theorem dX6_copy_62 : decode cX6_copy 62 = .ok (.aload_n 0, 1) := by decide +kernel
theorem dX6_copy_63 : decode cX6_copy 63 = .ok (.getfield 35, 3) := by decide +kernel
theorem dX6_copy_66 : decode cX6_copy 66 = .ok (.iload_n 1, 1) := by decide +kernel
theorem dX6_copy_67 : decode cX6_copy 67 = .ok (.invokevirtual 95, 3) := by decide +kernel
theorem dX6_copy_70 : decode cX6_copy 70 = .ok (.ifCond .ne 14, 3) := by decide +kernel
theorem dX6_copy_73 : decode cX6_copy 73 = .ok (.aload_n 0, 1) := by decide +kernel
theorem dX6_copy_74 : decode cX6_copy 74 = .ok (.getfield 35, 3) := by decide +kernel
theorem dX6_copy_77 : decode cX6_copy 77 = .ok (.iload_n 2, 1) := by decide +kernel
theorem dX6_copy_78 : decode cX6_copy 78 = .ok (.invokevirtual 95, 3) := by decide +kernel
theorem dX6_copy_81 : decode cX6_copy 81 = .ok (.ifCond .eq 10, 3) := by decide +kernel
theorem dX6_copy_84 : decode cX6_copy 84 = .ok (.aload_n 0, 1) := by decide +kernel
theorem dX6_copy_85 : decode cX6_copy 85 = .ok (.bipush (-4), 2) := by decide +kernel
theorem dX6_copy_87 : decode cX6_copy 87 = .ok (.invokevirtual 70, 3) := by decide +kernel
theorem dX6_copy_90 : decode cX6_copy 90 = .ok (.ireturn, 1) := by decide +kernel
theorem dX6_copy_91 : decode cX6_copy 91 = .ok (.iload 5, 2) := by decide +kernel
theorem dX6_copy_93 : decode cX6_copy 93 = .ok (.iconst 0, 1) := by decide +kernel
theorem dX6_copy_94 : decode cX6_copy 94 = .ok (.bipush 40, 2) := by decide +kernel
theorem dX6_copy_96 : decode cX6_copy 96 = .ok (.invokestatic 66, 3) := by decide +kernel
theorem dX6_copy_99 : decode cX6_copy 99 = .ok (.ifCond .eq 44, 3) := by decide +kernel
theorem dX6_copy_102 : decode cX6_copy 102 = .ok (.iload_n 3, 1) := by decide +kernel
theorem dX6_copy_103 : decode cX6_copy 103 = .ok (.iconst 0, 1) := by decide +kernel
theorem dX6_copy_104 : decode cX6_copy 104 = .ok (.aload_n 0, 1) := by decide +kernel
theorem dX6_copy_105 : decode cX6_copy 105 = .ok (.getfield 35, 3) := by decide +kernel
theorem dX6_copy_108 : decode cX6_copy 108 = .ok (.getfield 81, 3) := by decide +kernel
theorem dX6_copy_111 : decode cX6_copy 111 = .ok (.iload_n 1, 1) := by decide +kernel
theorem dX6_copy_112 : decode cX6_copy 112 = .ok (.iaload, 1) := by decide +kernel
theorem dX6_copy_113 : decode cX6_copy 113 = .ok (.iload 5, 2) := by decide +kernel
theorem dX6_copy_115 : decode cX6_copy 115 = .ok (.isub, 1) := by decide +kernel
theorem dX6_copy_116 : decode cX6_copy 116 = .ok (.invokestatic 66, 3) := by decide +kernel
theorem dX6_copy_119 : decode cX6_copy 119 = .ok (.ifCond .eq 24, 3) := by decide +kernel
theorem dX6_copy_122 : decode cX6_copy 122 = .ok (.iload 4, 2) := by decide +kernel
theorem dX6_copy_124 : decode cX6_copy 124 = .ok (.iconst 0, 1) := by decide +kernel
theorem dX6_copy_125 : decode cX6_copy 125 = .ok (.aload_n 0, 1) := by decide +kernel
theorem dX6_copy_126 : decode cX6_copy 126 = .ok (.getfield 35, 3) := by decide +kernel
theorem dX6_copy_129 : decode cX6_copy 129 = .ok (.getfield 81, 3) := by decide +kernel
theorem dX6_copy_132 : decode cX6_copy 132 = .ok (.iload_n 2, 1) := by decide +kernel
theorem dX6_copy_133 : decode cX6_copy 133 = .ok (.iaload, 1) := by decide +kernel
theorem dX6_copy_134 : decode cX6_copy 134 = .ok (.iload 5, 2) := by decide +kernel
theorem dX6_copy_136 : decode cX6_copy 136 = .ok (.isub, 1) := by decide +kernel
theorem dX6_copy_137 : decode cX6_copy 137 = .ok (.invokestatic 66, 3) := by decide +kernel
theorem dX6_copy_140 : decode cX6_copy 140 = .ok (.ifCond .ne 10, 3) := by decide +kernel
theorem dX6_copy_143 : decode cX6_copy 143 = .ok (.aload_n 0, 1) := by decide +kernel
theorem dX6_copy_144 : decode cX6_copy 144 = .ok (.bipush (-2), 2) := by decide +kernel
theorem dX6_copy_146 : decode cX6_copy 146 = .ok (.invokevirtual 70, 3) := by decide +kernel
theorem dX6_copy_149 : decode cX6_copy 149 = .ok (.ireturn, 1) := by decide +kernel
theorem dX6_copy_150 : decode cX6_copy 150 = .ok (.aload_n 0, 1) := by decide +kernel
theorem dX6_copy_151 : decode cX6_copy 151 = .ok (.getfield 35, 3) := by decide +kernel
theorem dX6_copy_154 : decode cX6_copy 154 = .ok (.iload_n 1, 1) := by decide +kernel
theorem dX6_copy_155 : decode cX6_copy 155 = .ok (.iload_n 2, 1) := by decide +kernel
theorem dX6_copy_156 : decode cX6_copy 156 = .ok (.iload_n 3, 1) := by decide +kernel
theorem dX6_copy_157 : decode cX6_copy 157 = .ok (.iload 4, 2) := by decide +kernel
theorem dX6_copy_159 : decode cX6_copy 159 = .ok (.iload 5, 2) := by decide +kernel
theorem dX6_copy_161 : decode cX6_copy 161 = .ok (.invokevirtual 98, 3) := by decide +kernel
theorem dX6_copy_164 : decode cX6_copy 164 = .ok (.iload 5, 2) := by decide +kernel
theorem dX6_copy_166 : decode cX6_copy 166 = .ok (.ireturn, 1) := by decide +kernel
theorem dX6_element_0 : decode cX6_element 0 = .ok (.iload_n 1, 1) := by decide +kernel
theorem dX6_element_1 : decode cX6_element 1 = .ok (.invokestatic 62, 3) := by decide +kernel
theorem dX6_element_4 : decode cX6_element 4 = .ok (.ifCond .eq 14, 3) := by decide +kernel
theorem dX6_element_7 : decode cX6_element 7 = .ok (.aload_n 0, 1) := by decide +kernel
theorem dX6_element_8 : decode cX6_element 8 = .ok (.getfield 35, 3) := by decide +kernel
theorem dX6_element_11 : decode cX6_element 11 = .ok (.iload_n 1, 1) := by decide +kernel
theorem dX6_element_12 : decode cX6_element 12 = .ok (.invokevirtual 102, 3) := by decide +kernel
theorem dX6_element_15 : decode cX6_element 15 = .ok (.ifCond .ne 5, 3) := by decide +kernel
theorem dX6_element_18 : decode cX6_element 18 = .ok (.lconst 0, 1) := by decide +kernel
theorem dX6_element_19 : decode cX6_element 19 = .ok (.lreturn, 1) := by decide +kernel
theorem dX6_element_20 : decode cX6_element 20 = .ok (.aload_n 0, 1) := by decide +kernel
theorem dX6_element_21 : decode cX6_element 21 = .ok (.getfield 35, 3) := by decide +kernel
theorem dX6_element_24 : decode cX6_element 24 = .ok (.iload_n 1, 1) := by decide +kernel
theorem dX6_element_25 : decode cX6_element 25 = .ok (.iload_n 2, 1) := by decide +kernel
theorem dX6_element_26 : decode cX6_element 26 = .ok (.invokevirtual 105, 3) := by decide +kernel
theorem dX6_element_29 : decode cX6_element 29 = .ok (.lreturn, 1) := by decide +kernel
theorem dX6_goes_0 : decode cX6_goes 0 = .ok (.aload_n 0, 1) := by decide +kernel
theorem dX6_goes_1 : decode cX6_goes 1 = .ok (.iload_n 1, 1) := by decide +kernel
theorem dX6_goes_2 : decode cX6_goes 2 = .ok (.iload_n 2, 1) := by decide +kernel
theorem dX6_goes_3 : decode cX6_goes 3 = .ok (.invokevirtual 200, 3) := by decide +kernel
theorem dX6_goes_6 : decode cX6_goes 6 = .ok (.ifCond .eq 21, 3) := by decide +kernel
theorem dX6_goes_9 : decode cX6_goes 9 = .ok (.aload_n 0, 1) := by decide +kernel
theorem dX6_goes_10 : decode cX6_goes 10 = .ok (.iload_n 3, 1) := by decide +kernel
theorem dX6_goes_11 : decode cX6_goes 11 = .ok (.invokevirtual 136, 3) := by decide +kernel
theorem dX6_goes_14 : decode cX6_goes 14 = .ok (.ifCond .eq 13, 3) := by decide +kernel
theorem dX6_goes_17 : decode cX6_goes 17 = .ok (.iload 4, 2) := by decide +kernel
theorem dX6_goes_19 : decode cX6_goes 19 = .ok (.iconst 0, 1) := by decide +kernel
theorem dX6_goes_20 : decode cX6_goes 20 = .ok (.iconst 4, 1) := by decide +kernel
theorem dX6_goes_21 : decode cX6_goes 21 = .ok (.invokestatic 66, 3) := by decide +kernel
theorem dX6_goes_24 : decode cX6_goes 24 = .ok (.ifCond .ne 10, 3) := by decide +kernel
theorem dX6_goes_27 : decode cX6_goes 27 = .ok (.aload_n 0, 1) := by decide +kernel
theorem dX6_goes_28 : decode cX6_goes 28 = .ok (.bipush (-2), 2) := by decide +kernel
theorem dX6_goes_30 : decode cX6_goes 30 = .ok (.invokevirtual 70, 3) := by decide +kernel
theorem dX6_goes_33 : decode cX6_goes 33 = .ok (.ireturn, 1) := by decide +kernel
theorem dX6_goes_34 : decode cX6_goes 34 = .ok (.aload_n 0, 1) := by decide +kernel
theorem dX6_goes_35 : decode cX6_goes 35 = .ok (.getfield 28, 3) := by decide +kernel
theorem dX6_goes_38 : decode cX6_goes 38 = .ok (.iload_n 1, 1) := by decide +kernel
theorem dX6_goes_39 : decode cX6_goes 39 = .ok (.iload_n 2, 1) := by decide +kernel
theorem dX6_goes_40 : decode cX6_goes 40 = .ok (.invokevirtual 223, 3) := by decide +kernel
theorem dX6_goes_43 : decode cX6_goes 43 = .ok (.iload 4, 2) := by decide +kernel
theorem dX6_goes_45 : decode cX6_goes 45 = .ok (.ifCond .ne 22, 3) := by decide +kernel
theorem dX6_goes_48 : decode cX6_goes 48 = .ok (.aload_n 0, 1) := by decide +kernel
theorem dX6_goes_49 : decode cX6_goes 49 = .ok (.getfield 28, 3) := by decide +kernel
theorem dX6_goes_52 : decode cX6_goes 52 = .ok (.getfield 226, 3) := by decide +kernel
theorem dX6_goes_55 : decode cX6_goes 55 = .ok (.iload_n 3, 1) := by decide +kernel
theorem dX6_goes_56 : decode cX6_goes 56 = .ok (.iaload, 1) := by decide +kernel
theorem dX6_goes_57 : decode cX6_goes 57 = .ok (.iconst (-1), 1) := by decide +kernel
theorem dX6_goes_58 : decode cX6_goes 58 = .ok (.if_icmp .ne 7, 3) := by decide +kernel
theorem dX6_goes_61 : decode cX6_goes 61 = .ok (.iconst 0, 1) := by decide +kernel
theorem dX6_goes_62 : decode cX6_goes 62 = .ok (.goto 4, 3) := by decide +kernel
theorem dX6_goes_65 : decode cX6_goes 65 = .ok (.iconst 1, 1) := by decide +kernel
theorem dX6_goes_66 : decode cX6_goes 66 = .ok (.ireturn, 1) := by decide +kernel
theorem dX6_goes_67 : decode cX6_goes 67 = .ok (.iload 4, 2) := by decide +kernel
theorem dX6_goes_69 : decode cX6_goes 69 = .ok (.iconst 3, 1) := by decide +kernel
theorem dX6_goes_70 : decode cX6_goes 70 = .ok (.if_icmp .ne 12, 3) := by decide +kernel
theorem dX6_goes_73 : decode cX6_goes 73 = .ok (.aload_n 0, 1) := by decide +kernel
theorem dX6_goes_74 : decode cX6_goes 74 = .ok (.getfield 28, 3) := by decide +kernel
theorem dX6_goes_77 : decode cX6_goes 77 = .ok (.iload_n 3, 1) := by decide +kernel
theorem dX6_goes_78 : decode cX6_goes 78 = .ok (.invokevirtual 229, 3) := by decide +kernel
theorem dX6_goes_81 : decode cX6_goes 81 = .ok (.ireturn, 1) := by decide +kernel
theorem dX6_goes_82 : decode cX6_goes 82 = .ok (.aload_n 0, 1) := by decide +kernel
theorem dX6_goes_83 : decode cX6_goes 83 = .ok (.getfield 28, 3) := by decide +kernel
theorem dX6_goes_86 : decode cX6_goes 86 = .ok (.getfield 226, 3) := by decide +kernel
theorem dX6_goes_89 : decode cX6_goes 89 = .ok (.iload_n 3, 1) := by decide +kernel
theorem dX6_goes_90 : decode cX6_goes 90 = .ok (.iaload, 1) := by decide +kernel
theorem dX6_goes_91 : decode cX6_goes 91 = .ok (.iconst (-1), 1) := by decide +kernel
theorem dX6_goes_92 : decode cX6_goes 92 = .ok (.if_icmp .ne 10, 3) := by decide +kernel
theorem dX6_goes_95 : decode cX6_goes 95 = .ok (.aload_n 0, 1) := by decide +kernel
theorem dX6_goes_96 : decode cX6_goes 96 = .ok (.bipush (-5), 2) := by decide +kernel
theorem dX6_goes_98 : decode cX6_goes 98 = .ok (.invokevirtual 70, 3) := by decide +kernel
theorem dX6_goes_101 : decode cX6_goes 101 = .ok (.ireturn, 1) := by decide +kernel
theorem dX6_goes_102 : decode cX6_goes 102 = .ok (.iload 4, 2) := by decide +kernel
theorem dX6_goes_104 : decode cX6_goes 104 = .ok (.iconst 1, 1) := by decide +kernel
theorem dX6_goes_105 : decode cX6_goes 105 = .ok (.if_icmp .ne 13, 3) := by decide +kernel
theorem dX6_goes_108 : decode cX6_goes 108 = .ok (.aload_n 0, 1) := by decide +kernel
theorem dX6_goes_109 : decode cX6_goes 109 = .ok (.getfield 28, 3) := by decide +kernel
theorem dX6_goes_112 : decode cX6_goes 112 = .ok (.iload_n 3, 1) := by decide +kernel
theorem dX6_goes_113 : decode cX6_goes 113 = .ok (.iconst 1, 1) := by decide +kernel
theorem dX6_goes_114 : decode cX6_goes 114 = .ok (.invokevirtual 232, 3) := by decide +kernel
theorem dX6_goes_117 : decode cX6_goes 117 = .ok (.ireturn, 1) := by decide +kernel
theorem dX6_goes_118 : decode cX6_goes 118 = .ok (.iload 4, 2) := by decide +kernel
theorem dX6_goes_120 : decode cX6_goes 120 = .ok (.iconst 2, 1) := by decide +kernel
theorem dX6_goes_121 : decode cX6_goes 121 = .ok (.if_icmp .ne 14, 3) := by decide +kernel
theorem dX6_goes_124 : decode cX6_goes 124 = .ok (.aload_n 0, 1) := by decide +kernel
theorem dX6_goes_125 : decode cX6_goes 125 = .ok (.getfield 28, 3) := by decide +kernel
theorem dX6_goes_128 : decode cX6_goes 128 = .ok (.iload_n 3, 1) := by decide +kernel
theorem dX6_goes_129 : decode cX6_goes 129 = .ok (.invokevirtual 235, 3) := by decide +kernel
theorem dX6_goes_132 : decode cX6_goes 132 = .ok (.goto 12, 3) := by decide +kernel
theorem dX6_goes_135 : decode cX6_goes 135 = .ok (.aload_n 0, 1) := by decide +kernel
theorem dX6_goes_136 : decode cX6_goes 136 = .ok (.getfield 28, 3) := by decide +kernel
theorem dX6_goes_139 : decode cX6_goes 139 = .ok (.getfield 226, 3) := by decide +kernel
theorem dX6_goes_142 : decode cX6_goes 142 = .ok (.iload_n 3, 1) := by decide +kernel
theorem dX6_goes_143 : decode cX6_goes 143 = .ok (.iaload, 1) := by decide +kernel
theorem dX6_goes_144 : decode cX6_goes 144 = .ok (.ireturn, 1) := by decide +kernel
theorem dX6_holds_0 : decode cX6_holds 0 = .ok (.iload_n 1, 1) := by decide +kernel
theorem dX6_holds_1 : decode cX6_holds 1 = .ok (.invokestatic 62, 3) := by decide +kernel
theorem dX6_holds_4 : decode cX6_holds 4 = .ok (.ifCond .eq 15, 3) := by decide +kernel
theorem dX6_holds_7 : decode cX6_holds 7 = .ok (.aload_n 0, 1) := by decide +kernel
theorem dX6_holds_8 : decode cX6_holds 8 = .ok (.getfield 35, 3) := by decide +kernel
theorem dX6_holds_11 : decode cX6_holds 11 = .ok (.getfield 109, 3) := by decide +kernel
theorem dX6_holds_14 : decode cX6_holds 14 = .ok (.iload_n 1, 1) := by decide +kernel
theorem dX6_holds_15 : decode cX6_holds 15 = .ok (.iaload, 1) := by decide +kernel
theorem dX6_holds_16 : decode cX6_holds 16 = .ok (.goto 4, 3) := by decide +kernel
theorem dX6_holds_19 : decode cX6_holds 19 = .ok (.iconst (-1), 1) := by decide +kernel
theorem dX6_holds_20 : decode cX6_holds 20 = .ok (.ireturn, 1) := by decide +kernel
theorem dX6_length_0 : decode cX6_length 0 = .ok (.aload_n 0, 1) := by decide +kernel
theorem dX6_length_1 : decode cX6_length 1 = .ok (.iload_n 1, 1) := by decide +kernel
theorem dX6_length_2 : decode cX6_length 2 = .ok (.invokevirtual 194, 3) := by decide +kernel
theorem dX6_length_5 : decode cX6_length 5 = .ok (.ifCond .ne 10, 3) := by decide +kernel
theorem dX6_length_8 : decode cX6_length 8 = .ok (.aload_n 0, 1) := by decide +kernel
theorem dX6_length_9 : decode cX6_length 9 = .ok (.bipush (-2), 2) := by decide +kernel
theorem dX6_length_11 : decode cX6_length 11 = .ok (.invokevirtual 70, 3) := by decide +kernel
theorem dX6_length_14 : decode cX6_length 14 = .ok (.ireturn, 1) := by decide +kernel
theorem dX6_length_15 : decode cX6_length 15 = .ok (.aload_n 0, 1) := by decide +kernel
theorem dX6_length_16 : decode cX6_length 16 = .ok (.getfield 10, 3) := by decide +kernel
theorem dX6_length_19 : decode cX6_length 19 = .ok (.iload_n 1, 1) := by decide +kernel
theorem dX6_length_20 : decode cX6_length 20 = .ok (.invokevirtual 197, 3) := by decide +kernel
theorem dX6_length_23 : decode cX6_length 23 = .ok (.ireturn, 1) := by decide +kernel
theorem dX6_needs_0 : decode cX6_needs 0 = .ok (.aload_n 0, 1) := by decide +kernel
theorem dX6_needs_1 : decode cX6_needs 1 = .ok (.iload_n 1, 1) := by decide +kernel
theorem dX6_needs_2 : decode cX6_needs 2 = .ok (.iload_n 2, 1) := by decide +kernel
theorem dX6_needs_3 : decode cX6_needs 3 = .ok (.invokevirtual 200, 3) := by decide +kernel
theorem dX6_needs_6 : decode cX6_needs 6 = .ok (.ifCond .eq 11, 3) := by decide +kernel
theorem dX6_needs_9 : decode cX6_needs 9 = .ok (.aload_n 0, 1) := by decide +kernel
theorem dX6_needs_10 : decode cX6_needs 10 = .ok (.iload_n 3, 1) := by decide +kernel
theorem dX6_needs_11 : decode cX6_needs 11 = .ok (.invokevirtual 112, 3) := by decide +kernel
theorem dX6_needs_14 : decode cX6_needs 14 = .ok (.ifCond .ne 10, 3) := by decide +kernel
theorem dX6_needs_17 : decode cX6_needs 17 = .ok (.aload_n 0, 1) := by decide +kernel
theorem dX6_needs_18 : decode cX6_needs 18 = .ok (.bipush (-2), 2) := by decide +kernel
theorem dX6_needs_20 : decode cX6_needs 20 = .ok (.invokevirtual 70, 3) := by decide +kernel
theorem dX6_needs_23 : decode cX6_needs 23 = .ok (.ireturn, 1) := by decide +kernel
theorem dX6_needs_24 : decode cX6_needs 24 = .ok (.aload_n 0, 1) := by decide +kernel
theorem dX6_needs_25 : decode cX6_needs 25 = .ok (.getfield 28, 3) := by decide +kernel
theorem dX6_needs_28 : decode cX6_needs 28 = .ok (.getfield 203, 3) := by decide +kernel
theorem dX6_needs_31 : decode cX6_needs 31 = .ok (.aload_n 0, 1) := by decide +kernel
theorem dX6_needs_32 : decode cX6_needs 32 = .ok (.getfield 10, 3) := by decide +kernel
theorem dX6_needs_35 : decode cX6_needs 35 = .ok (.iload_n 1, 1) := by decide +kernel
theorem dX6_needs_36 : decode cX6_needs 36 = .ok (.iload_n 2, 1) := by decide +kernel
theorem dX6_needs_37 : decode cX6_needs 37 = .ok (.invokevirtual 207, 3) := by decide +kernel
theorem dX6_needs_40 : decode cX6_needs 40 = .ok (.aload_n 0, 1) := by decide +kernel
theorem dX6_needs_41 : decode cX6_needs 41 = .ok (.getfield 28, 3) := by decide +kernel
theorem dX6_needs_44 : decode cX6_needs 44 = .ok (.getfield 203, 3) := by decide +kernel
theorem dX6_needs_47 : decode cX6_needs 47 = .ok (.aload_n 0, 1) := by decide +kernel
theorem dX6_needs_48 : decode cX6_needs 48 = .ok (.getfield 10, 3) := by decide +kernel
theorem dX6_needs_51 : decode cX6_needs 51 = .ok (.iload_n 3, 1) := by decide +kernel
theorem dX6_needs_52 : decode cX6_needs 52 = .ok (.invokevirtual 219, 3) := by decide +kernel
theorem dX6_needs_55 : decode cX6_needs 55 = .ok (.ireturn, 1) := by decide +kernel
theorem dX6_part_0 : decode cX6_part 0 = .ok (.iload_n 1, 1) := by decide +kernel
theorem dX6_part_1 : decode cX6_part 1 = .ok (.iconst 1, 1) := by decide +kernel
theorem dX6_part_2 : decode cX6_part 2 = .ok (.bipush 99, 2) := by decide +kernel
theorem dX6_part_4 : decode cX6_part 4 = .ok (.invokestatic 66, 3) := by decide +kernel
theorem dX6_part_7 : decode cX6_part 7 = .ok (.ifCond .eq 13, 3) := by decide +kernel
theorem dX6_part_10 : decode cX6_part 10 = .ok (.iload_n 2, 1) := by decide +kernel
theorem dX6_part_11 : decode cX6_part 11 = .ok (.iconst 0, 1) := by decide +kernel
theorem dX6_part_12 : decode cX6_part 12 = .ok (.bipush 99, 2) := by decide +kernel
theorem dX6_part_14 : decode cX6_part 14 = .ok (.invokestatic 66, 3) := by decide +kernel
theorem dX6_part_17 : decode cX6_part 17 = .ok (.ifCond .ne 10, 3) := by decide +kernel
theorem dX6_part_20 : decode cX6_part 20 = .ok (.aload_n 0, 1) := by decide +kernel
theorem dX6_part_21 : decode cX6_part 21 = .ok (.bipush (-2), 2) := by decide +kernel
theorem dX6_part_23 : decode cX6_part 23 = .ok (.invokevirtual 70, 3) := by decide +kernel
theorem dX6_part_26 : decode cX6_part 26 = .ok (.ireturn, 1) := by decide +kernel
theorem dX6_part_27 : decode cX6_part 27 = .ok (.aload_n 0, 1) := by decide +kernel
theorem dX6_part_28 : decode cX6_part 28 = .ok (.getfield 10, 3) := by decide +kernel
theorem dX6_part_31 : decode cX6_part 31 = .ok (.iconst 3, 1) := by decide +kernel
theorem dX6_part_32 : decode cX6_part 32 = .ok (.invokevirtual 129, 3) := by decide +kernel
theorem dX6_part_35 : decode cX6_part 35 = .ok (.ifCond .ne 10, 3) := by decide +kernel
theorem dX6_part_38 : decode cX6_part 38 = .ok (.aload_n 0, 1) := by decide +kernel
theorem dX6_part_39 : decode cX6_part 39 = .ok (.bipush (-6), 2) := by decide +kernel
theorem dX6_part_41 : decode cX6_part 41 = .ok (.invokevirtual 70, 3) := by decide +kernel
theorem dX6_part_44 : decode cX6_part 44 = .ok (.ireturn, 1) := by decide +kernel
theorem dX6_part_45 : decode cX6_part 45 = .ok (.aload_n 0, 1) := by decide +kernel
theorem dX6_part_46 : decode cX6_part 46 = .ok (.getfield 10, 3) := by decide +kernel
theorem dX6_part_49 : decode cX6_part 49 = .ok (.iload_n 1, 1) := by decide +kernel
theorem dX6_part_50 : decode cX6_part 50 = .ok (.iload_n 2, 1) := by decide +kernel
theorem dX6_part_51 : decode cX6_part 51 = .ok (.invokevirtual 150, 3) := by decide +kernel
theorem dX6_part_54 : decode cX6_part 54 = .ok (.ireturn, 1) := by decide +kernel
theorem dX6_prop_0 : decode cX6_prop 0 = .ok (.aload_n 0, 1) := by decide +kernel
theorem dX6_prop_1 : decode cX6_prop 1 = .ok (.iload_n 1, 1) := by decide +kernel
theorem dX6_prop_2 : decode cX6_prop 2 = .ok (.invokevirtual 112, 3) := by decide +kernel
theorem dX6_prop_5 : decode cX6_prop 5 = .ok (.ifCond .eq 25, 3) := by decide +kernel
theorem dX6_prop_8 : decode cX6_prop 8 = .ok (.iload_n 2, 1) := by decide +kernel
theorem dX6_prop_9 : decode cX6_prop 9 = .ok (.iconst 0, 1) := by decide +kernel
theorem dX6_prop_10 : decode cX6_prop 10 = .ok (.sipush 999, 3) := by decide +kernel
theorem dX6_prop_13 : decode cX6_prop 13 = .ok (.invokestatic 66, 3) := by decide +kernel
theorem dX6_prop_16 : decode cX6_prop 16 = .ok (.ifCond .eq 14, 3) := by decide +kernel
theorem dX6_prop_19 : decode cX6_prop 19 = .ok (.iload_n 3, 1) := by decide +kernel
theorem dX6_prop_20 : decode cX6_prop 20 = .ok (.iconst 0, 1) := by decide +kernel
theorem dX6_prop_21 : decode cX6_prop 21 = .ok (.sipush 999, 3) := by decide +kernel
theorem dX6_prop_24 : decode cX6_prop 24 = .ok (.invokestatic 66, 3) := by decide +kernel
theorem dX6_prop_27 : decode cX6_prop 27 = .ok (.ifCond .ne 10, 3) := by decide +kernel
theorem dX6_prop_30 : decode cX6_prop 30 = .ok (.aload_n 0, 1) := by decide +kernel
theorem dX6_prop_31 : decode cX6_prop 31 = .ok (.bipush (-2), 2) := by decide +kernel
theorem dX6_prop_33 : decode cX6_prop 33 = .ok (.invokevirtual 70, 3) := by decide +kernel
theorem dX6_prop_36 : decode cX6_prop 36 = .ok (.ireturn, 1) := by decide +kernel
theorem dX6_prop_37 : decode cX6_prop 37 = .ok (.aload_n 0, 1) := by decide +kernel
theorem dX6_prop_38 : decode cX6_prop 38 = .ok (.getfield 10, 3) := by decide +kernel
theorem dX6_prop_41 : decode cX6_prop 41 = .ok (.iload_n 1, 1) := by decide +kernel
theorem dX6_prop_42 : decode cX6_prop 42 = .ok (.iload_n 2, 1) := by decide +kernel
theorem dX6_prop_43 : decode cX6_prop 43 = .ok (.iload_n 3, 1) := by decide +kernel
theorem dX6_prop_44 : decode cX6_prop 44 = .ok (.invokevirtual 143, 3) := by decide +kernel
theorem dX6_prop_47 : decode cX6_prop 47 = .ok (.iconst 1, 1) := by decide +kernel
theorem dX6_prop_48 : decode cX6_prop 48 = .ok (.ireturn, 1) := by decide +kernel
theorem dX6_road_0 : decode cX6_road 0 = .ok (.iload_n 1, 1) := by decide +kernel
theorem dX6_road_1 : decode cX6_road 1 = .ok (.invokestatic 126, 3) := by decide +kernel
theorem dX6_road_4 : decode cX6_road 4 = .ok (.ifCond .eq 58, 3) := by decide +kernel
theorem dX6_road_7 : decode cX6_road 7 = .ok (.iload_n 2, 1) := by decide +kernel
theorem dX6_road_8 : decode cX6_road 8 = .ok (.invokestatic 126, 3) := by decide +kernel
theorem dX6_road_11 : decode cX6_road 11 = .ok (.ifCond .eq 51, 3) := by decide +kernel
theorem dX6_road_14 : decode cX6_road 14 = .ok (.iload_n 1, 1) := by decide +kernel
theorem dX6_road_15 : decode cX6_road 15 = .ok (.iload_n 2, 1) := by decide +kernel
theorem dX6_road_16 : decode cX6_road 16 = .ok (.if_icmp .eq 46, 3) := by decide +kernel
theorem dX6_road_19 : decode cX6_road 19 = .ok (.iload_n 3, 1) := by decide +kernel
theorem dX6_road_20 : decode cX6_road 20 = .ok (.iconst 1, 1) := by decide +kernel
theorem dX6_road_21 : decode cX6_road 21 = .ok (.bipush 60, 2) := by decide +kernel
theorem dX6_road_23 : decode cX6_road 23 = .ok (.invokestatic 66, 3) := by decide +kernel
theorem dX6_road_26 : decode cX6_road 26 = .ok (.ifCond .eq 36, 3) := by decide +kernel
theorem dX6_road_29 : decode cX6_road 29 = .ok (.iload 4, 2) := by decide +kernel
theorem dX6_road_31 : decode cX6_road 31 = .ok (.iconst 0, 1) := by decide +kernel
theorem dX6_road_32 : decode cX6_road 32 = .ok (.bipush 9, 2) := by decide +kernel
theorem dX6_road_34 : decode cX6_road 34 = .ok (.invokestatic 66, 3) := by decide +kernel
theorem dX6_road_37 : decode cX6_road 37 = .ok (.ifCond .eq 25, 3) := by decide +kernel
theorem dX6_road_40 : decode cX6_road 40 = .ok (.iload 5, 2) := by decide +kernel
theorem dX6_road_42 : decode cX6_road 42 = .ok (.iconst 1, 1) := by decide +kernel
theorem dX6_road_43 : decode cX6_road 43 = .ok (.bipush 99, 2) := by decide +kernel
theorem dX6_road_45 : decode cX6_road 45 = .ok (.invokestatic 66, 3) := by decide +kernel
theorem dX6_road_48 : decode cX6_road 48 = .ok (.ifCond .eq 14, 3) := by decide +kernel
theorem dX6_road_51 : decode cX6_road 51 = .ok (.iload 6, 2) := by decide +kernel
theorem dX6_road_53 : decode cX6_road 53 = .ok (.iconst 0, 1) := by decide +kernel
theorem dX6_road_54 : decode cX6_road 54 = .ok (.bipush 15, 2) := by decide +kernel
theorem dX6_road_56 : decode cX6_road 56 = .ok (.invokestatic 66, 3) := by decide +kernel
theorem dX6_road_59 : decode cX6_road 59 = .ok (.ifCond .ne 10, 3) := by decide +kernel
theorem dX6_road_62 : decode cX6_road 62 = .ok (.aload_n 0, 1) := by decide +kernel
theorem dX6_road_63 : decode cX6_road 63 = .ok (.bipush (-2), 2) := by decide +kernel
theorem dX6_road_65 : decode cX6_road 65 = .ok (.invokevirtual 70, 3) := by decide +kernel
theorem dX6_road_68 : decode cX6_road 68 = .ok (.ireturn, 1) := by decide +kernel
theorem dX6_road_69 : decode cX6_road 69 = .ok (.aload_n 0, 1) := by decide +kernel
theorem dX6_road_70 : decode cX6_road 70 = .ok (.getfield 10, 3) := by decide +kernel
theorem dX6_road_73 : decode cX6_road 73 = .ok (.iconst 0, 1) := by decide +kernel
theorem dX6_road_74 : decode cX6_road 74 = .ok (.invokevirtual 129, 3) := by decide +kernel
theorem dX6_road_77 : decode cX6_road 77 = .ok (.ifCond .ne 10, 3) := by decide +kernel
theorem dX6_road_80 : decode cX6_road 80 = .ok (.aload_n 0, 1) := by decide +kernel
theorem dX6_road_81 : decode cX6_road 81 = .ok (.bipush (-6), 2) := by decide +kernel
theorem dX6_road_83 : decode cX6_road 83 = .ok (.invokevirtual 70, 3) := by decide +kernel
theorem dX6_road_86 : decode cX6_road 86 = .ok (.ireturn, 1) := by decide +kernel
theorem dX6_road_87 : decode cX6_road 87 = .ok (.aload_n 0, 1) := by decide +kernel
theorem dX6_road_88 : decode cX6_road 88 = .ok (.getfield 10, 3) := by decide +kernel
theorem dX6_road_91 : decode cX6_road 91 = .ok (.iload_n 1, 1) := by decide +kernel
theorem dX6_road_92 : decode cX6_road 92 = .ok (.iload_n 2, 1) := by decide +kernel
theorem dX6_road_93 : decode cX6_road 93 = .ok (.iload_n 3, 1) := by decide +kernel
theorem dX6_road_94 : decode cX6_road 94 = .ok (.iload 4, 2) := by decide +kernel
theorem dX6_road_96 : decode cX6_road 96 = .ok (.iload 5, 2) := by decide +kernel
theorem dX6_road_98 : decode cX6_road 98 = .ok (.iload 6, 2) := by decide +kernel
theorem dX6_road_100 : decode cX6_road 100 = .ok (.invokevirtual 132, 3) := by decide +kernel
theorem dX6_road_103 : decode cX6_road 103 = .ok (.ireturn, 1) := by decide +kernel
theorem dX6_roadOf_0 : decode cX6_roadOf 0 = .ok (.aload_n 0, 1) := by decide +kernel
theorem dX6_roadOf_1 : decode cX6_roadOf 1 = .ok (.iload_n 1, 1) := by decide +kernel
theorem dX6_roadOf_2 : decode cX6_roadOf 2 = .ok (.invokevirtual 136, 3) := by decide +kernel
theorem dX6_roadOf_5 : decode cX6_roadOf 5 = .ok (.ifCond .eq 13, 3) := by decide +kernel
theorem dX6_roadOf_8 : decode cX6_roadOf 8 = .ok (.iload_n 2, 1) := by decide +kernel
theorem dX6_roadOf_9 : decode cX6_roadOf 9 = .ok (.iconst 0, 1) := by decide +kernel
theorem dX6_roadOf_10 : decode cX6_roadOf 10 = .ok (.bipush 6, 2) := by decide +kernel
theorem dX6_roadOf_12 : decode cX6_roadOf 12 = .ok (.invokestatic 66, 3) := by decide +kernel
theorem dX6_roadOf_15 : decode cX6_roadOf 15 = .ok (.ifCond .ne 10, 3) := by decide +kernel
theorem dX6_roadOf_18 : decode cX6_roadOf 18 = .ok (.aload_n 0, 1) := by decide +kernel
theorem dX6_roadOf_19 : decode cX6_roadOf 19 = .ok (.bipush (-2), 2) := by decide +kernel
theorem dX6_roadOf_21 : decode cX6_roadOf 21 = .ok (.invokevirtual 70, 3) := by decide +kernel
theorem dX6_roadOf_24 : decode cX6_roadOf 24 = .ok (.ireturn, 1) := by decide +kernel
theorem dX6_roadOf_25 : decode cX6_roadOf 25 = .ok (.aload_n 0, 1) := by decide +kernel
theorem dX6_roadOf_26 : decode cX6_roadOf 26 = .ok (.getfield 10, 3) := by decide +kernel
theorem dX6_roadOf_29 : decode cX6_roadOf 29 = .ok (.iload_n 1, 1) := by decide +kernel
theorem dX6_roadOf_30 : decode cX6_roadOf 30 = .ok (.iload_n 2, 1) := by decide +kernel
theorem dX6_roadOf_31 : decode cX6_roadOf 31 = .ok (.invokevirtual 165, 3) := by decide +kernel
theorem dX6_roadOf_34 : decode cX6_roadOf 34 = .ok (.ireturn, 1) := by decide +kernel
theorem dX6_row_0 : decode cX6_row 0 = .ok (.iload_n 1, 1) := by decide +kernel
theorem dX6_row_1 : decode cX6_row 1 = .ok (.invokestatic 62, 3) := by decide +kernel
theorem dX6_row_4 : decode cX6_row 4 = .ok (.ifCond .eq 22, 3) := by decide +kernel
theorem dX6_row_7 : decode cX6_row 7 = .ok (.iload_n 2, 1) := by decide +kernel
theorem dX6_row_8 : decode cX6_row 8 = .ok (.iconst 0, 1) := by decide +kernel
theorem dX6_row_9 : decode cX6_row 9 = .ok (.iconst 4, 1) := by decide +kernel
theorem dX6_row_10 : decode cX6_row 10 = .ok (.invokestatic 66, 3) := by decide +kernel
theorem dX6_row_13 : decode cX6_row 13 = .ok (.ifCond .eq 13, 3) := by decide +kernel
theorem dX6_row_16 : decode cX6_row 16 = .ok (.iload_n 3, 1) := by decide +kernel
theorem dX6_row_17 : decode cX6_row 17 = .ok (.iconst 0, 1) := by decide +kernel
theorem dX6_row_18 : decode cX6_row 18 = .ok (.bipush 40, 2) := by decide +kernel
theorem dX6_row_20 : decode cX6_row 20 = .ok (.invokestatic 66, 3) := by decide +kernel
theorem dX6_row_23 : decode cX6_row 23 = .ok (.ifCond .ne 10, 3) := by decide +kernel
theorem dX6_row_26 : decode cX6_row 26 = .ok (.aload_n 0, 1) := by decide +kernel
theorem dX6_row_27 : decode cX6_row 27 = .ok (.bipush (-2), 2) := by decide +kernel
theorem dX6_row_29 : decode cX6_row 29 = .ok (.invokevirtual 70, 3) := by decide +kernel
theorem dX6_row_32 : decode cX6_row 32 = .ok (.ireturn, 1) := by decide +kernel
theorem dX6_row_33 : decode cX6_row 33 = .ok (.aload_n 0, 1) := by decide +kernel
theorem dX6_row_34 : decode cX6_row 34 = .ok (.getfield 35, 3) := by decide +kernel
theorem dX6_row_37 : decode cX6_row 37 = .ok (.iload_n 1, 1) := by decide +kernel
theorem dX6_row_38 : decode cX6_row 38 = .ok (.iload_n 2, 1) := by decide +kernel
theorem dX6_row_39 : decode cX6_row 39 = .ok (.iload_n 3, 1) := by decide +kernel
theorem dX6_row_40 : decode cX6_row 40 = .ok (.invokevirtual 74, 3) := by decide +kernel
theorem dX6_row_43 : decode cX6_row 43 = .ok (.iconst 1, 1) := by decide +kernel
theorem dX6_row_44 : decode cX6_row 44 = .ok (.ireturn, 1) := by decide +kernel
theorem dX6_says_0 : decode cX6_says 0 = .ok (.iload_n 1, 1) := by decide +kernel
theorem dX6_says_1 : decode cX6_says 1 = .ok (.invokestatic 62, 3) := by decide +kernel
theorem dX6_says_4 : decode cX6_says 4 = .ok (.ifCond .eq 12, 3) := by decide +kernel
theorem dX6_says_7 : decode cX6_says 7 = .ok (.iload_n 2, 1) := by decide +kernel
theorem dX6_says_8 : decode cX6_says 8 = .ok (.iconst 0, 1) := by decide +kernel
theorem dX6_says_9 : decode cX6_says 9 = .ok (.iconst 5, 1) := by decide +kernel
theorem dX6_says_10 : decode cX6_says 10 = .ok (.invokestatic 66, 3) := by decide +kernel
theorem dX6_says_13 : decode cX6_says 13 = .ok (.ifCond .ne 10, 3) := by decide +kernel
theorem dX6_says_16 : decode cX6_says 16 = .ok (.aload_n 0, 1) := by decide +kernel
theorem dX6_says_17 : decode cX6_says 17 = .ok (.bipush (-2), 2) := by decide +kernel
theorem dX6_says_19 : decode cX6_says 19 = .ok (.invokevirtual 70, 3) := by decide +kernel
theorem dX6_says_22 : decode cX6_says 22 = .ok (.ireturn, 1) := by decide +kernel
theorem dX6_says_23 : decode cX6_says 23 = .ok (.aload_n 0, 1) := by decide +kernel
theorem dX6_says_24 : decode cX6_says 24 = .ok (.getfield 35, 3) := by decide +kernel
theorem dX6_says_27 : decode cX6_says 27 = .ok (.iload_n 1, 1) := by decide +kernel
theorem dX6_says_28 : decode cX6_says 28 = .ok (.invokevirtual 102, 3) := by decide +kernel
theorem dX6_says_31 : decode cX6_says 31 = .ok (.ifCond .eq 10, 3) := by decide +kernel
theorem dX6_says_34 : decode cX6_says 34 = .ok (.aload_n 0, 1) := by decide +kernel
theorem dX6_says_35 : decode cX6_says 35 = .ok (.bipush (-3), 2) := by decide +kernel
theorem dX6_says_37 : decode cX6_says 37 = .ok (.invokevirtual 70, 3) := by decide +kernel
theorem dX6_says_40 : decode cX6_says 40 = .ok (.ireturn, 1) := by decide +kernel
theorem dX6_says_41 : decode cX6_says 41 = .ok (.aload_n 0, 1) := by decide +kernel
theorem dX6_says_42 : decode cX6_says 42 = .ok (.getfield 35, 3) := by decide +kernel
theorem dX6_says_45 : decode cX6_says 45 = .ok (.getfield 109, 3) := by decide +kernel
theorem dX6_says_48 : decode cX6_says 48 = .ok (.iload_n 1, 1) := by decide +kernel
theorem dX6_says_49 : decode cX6_says 49 = .ok (.iaload, 1) := by decide +kernel
theorem dX6_says_50 : decode cX6_says 50 = .ok (.bipush 10, 2) := by decide +kernel
theorem dX6_says_52 : decode cX6_says 52 = .ok (.isub, 1) := by decide +kernel
theorem dX6_says_53 : decode cX6_says 53 = .ok (.istore_n 3, 1) := by decide +kernel
theorem dX6_says_54 : decode cX6_says 54 = .ok (.aload_n 0, 1) := by decide +kernel
theorem dX6_says_55 : decode cX6_says 55 = .ok (.iload_n 3, 1) := by decide +kernel
theorem dX6_says_56 : decode cX6_says 56 = .ok (.invokevirtual 112, 3) := by decide +kernel
theorem dX6_says_59 : decode cX6_says 59 = .ok (.ifCond .ne 10, 3) := by decide +kernel
theorem dX6_says_62 : decode cX6_says 62 = .ok (.aload_n 0, 1) := by decide +kernel
theorem dX6_says_63 : decode cX6_says 63 = .ok (.bipush (-4), 2) := by decide +kernel
theorem dX6_says_65 : decode cX6_says 65 = .ok (.invokevirtual 70, 3) := by decide +kernel
theorem dX6_says_68 : decode cX6_says 68 = .ok (.ireturn, 1) := by decide +kernel
theorem dX6_says_69 : decode cX6_says 69 = .ok (.aload_n 0, 1) := by decide +kernel
theorem dX6_says_70 : decode cX6_says 70 = .ok (.getfield 10, 3) := by decide +kernel
theorem dX6_says_73 : decode cX6_says 73 = .ok (.iload_n 3, 1) := by decide +kernel
theorem dX6_says_74 : decode cX6_says 74 = .ok (.iload_n 2, 1) := by decide +kernel
theorem dX6_says_75 : decode cX6_says 75 = .ok (.invokevirtual 119, 3) := by decide +kernel
theorem dX6_says_78 : decode cX6_says 78 = .ok (.ifCond .ne 10, 3) := by decide +kernel
theorem dX6_says_81 : decode cX6_says 81 = .ok (.aload_n 0, 1) := by decide +kernel
theorem dX6_says_82 : decode cX6_says 82 = .ok (.bipush (-3), 2) := by decide +kernel
theorem dX6_says_84 : decode cX6_says 84 = .ok (.invokevirtual 70, 3) := by decide +kernel
theorem dX6_says_87 : decode cX6_says 87 = .ok (.ireturn, 1) := by decide +kernel
theorem dX6_says_88 : decode cX6_says 88 = .ok (.aload_n 0, 1) := by decide +kernel
theorem dX6_says_89 : decode cX6_says 89 = .ok (.iload_n 3, 1) := by decide +kernel
theorem dX6_says_90 : decode cX6_says 90 = .ok (.iload_n 2, 1) := by decide +kernel
theorem dX6_says_91 : decode cX6_says 91 = .ok (.invokevirtual 122, 3) := by decide +kernel
theorem dX6_says_94 : decode cX6_says 94 = .ok (.ireturn, 1) := by decide +kernel
theorem dX6_set_0 : decode cX6_set 0 = .ok (.aload_n 0, 1) := by decide +kernel
theorem dX6_set_1 : decode cX6_set 1 = .ok (.iload_n 1, 1) := by decide +kernel
theorem dX6_set_2 : decode cX6_set 2 = .ok (.invokevirtual 78, 3) := by decide +kernel
theorem dX6_set_5 : decode cX6_set 5 = .ok (.istore 5, 2) := by decide +kernel
theorem dX6_set_7 : decode cX6_set 7 = .ok (.iload 5, 2) := by decide +kernel
theorem dX6_set_9 : decode cX6_set 9 = .ok (.ifCond .eq 10, 3) := by decide +kernel
theorem dX6_set_12 : decode cX6_set 12 = .ok (.aload_n 0, 1) := by decide +kernel
theorem dX6_set_13 : decode cX6_set 13 = .ok (.iload 5, 2) := by decide +kernel
theorem dX6_set_15 : decode cX6_set 15 = .ok (.invokevirtual 70, 3) := by decide +kernel
theorem dX6_set_18 : decode cX6_set 18 = .ok (.ireturn, 1) := by decide +kernel
theorem dX6_set_19 : decode cX6_set 19 = .ok (.iload_n 2, 1) := by decide +kernel
theorem dX6_set_20 : decode cX6_set 20 = .ok (.iconst 0, 1) := by decide +kernel
theorem dX6_set_21 : decode cX6_set 21 = .ok (.aload_n 0, 1) := by decide +kernel
theorem dX6_set_22 : decode cX6_set 22 = .ok (.getfield 35, 3) := by decide +kernel
theorem dX6_set_25 : decode cX6_set 25 = .ok (.getfield 81, 3) := by decide +kernel
theorem dX6_set_28 : decode cX6_set 28 = .ok (.iload_n 1, 1) := by decide +kernel
theorem dX6_set_29 : decode cX6_set 29 = .ok (.iaload, 1) := by decide +kernel
theorem dX6_set_30 : decode cX6_set 30 = .ok (.iconst 1, 1) := by decide +kernel
theorem dX6_set_31 : decode cX6_set 31 = .ok (.isub, 1) := by decide +kernel
theorem dX6_set_32 : decode cX6_set 32 = .ok (.invokestatic 66, 3) := by decide +kernel
theorem dX6_set_35 : decode cX6_set 35 = .ok (.ifCond .ne 10, 3) := by decide +kernel
theorem dX6_set_38 : decode cX6_set 38 = .ok (.aload_n 0, 1) := by decide +kernel
theorem dX6_set_39 : decode cX6_set 39 = .ok (.bipush (-2), 2) := by decide +kernel
theorem dX6_set_41 : decode cX6_set 41 = .ok (.invokevirtual 70, 3) := by decide +kernel
theorem dX6_set_44 : decode cX6_set 44 = .ok (.ireturn, 1) := by decide +kernel
theorem dX6_set_45 : decode cX6_set 45 = .ok (.aload_n 0, 1) := by decide +kernel
theorem dX6_set_46 : decode cX6_set 46 = .ok (.getfield 35, 3) := by decide +kernel
theorem dX6_set_49 : decode cX6_set 49 = .ok (.iload_n 1, 1) := by decide +kernel
theorem dX6_set_50 : decode cX6_set 50 = .ok (.iload_n 2, 1) := by decide +kernel
theorem dX6_set_51 : decode cX6_set 51 = .ok (.lload_n 3, 1) := by decide +kernel
theorem dX6_set_52 : decode cX6_set 52 = .ok (.invokevirtual 84, 3) := by decide +kernel
theorem dX6_set_55 : decode cX6_set 55 = .ok (.iconst 1, 1) := by decide +kernel
theorem dX6_set_56 : decode cX6_set 56 = .ok (.ireturn, 1) := by decide +kernel
theorem dX6_show_0 : decode cX6_show 0 = .ok (.iload_n 1, 1) := by decide +kernel
theorem dX6_show_1 : decode cX6_show 1 = .ok (.invokestatic 62, 3) := by decide +kernel
theorem dX6_show_4 : decode cX6_show 4 = .ok (.ifCond .eq 16, 3) := by decide +kernel
theorem dX6_show_7 : decode cX6_show 7 = .ok (.iload_n 2, 1) := by decide +kernel
theorem dX6_show_8 : decode cX6_show 8 = .ok (.iconst (-1), 1) := by decide +kernel
theorem dX6_show_9 : decode cX6_show 9 = .ok (.if_icmp .eq 18, 3) := by decide +kernel
theorem dX6_show_12 : decode cX6_show 12 = .ok (.aload_n 0, 1) := by decide +kernel
theorem dX6_show_13 : decode cX6_show 13 = .ok (.iload_n 2, 1) := by decide +kernel
theorem dX6_show_14 : decode cX6_show 14 = .ok (.invokevirtual 112, 3) := by decide +kernel
theorem dX6_show_17 : decode cX6_show 17 = .ok (.ifCond .ne 10, 3) := by decide +kernel
theorem dX6_show_20 : decode cX6_show 20 = .ok (.aload_n 0, 1) := by decide +kernel
theorem dX6_show_21 : decode cX6_show 21 = .ok (.bipush (-2), 2) := by decide +kernel
theorem dX6_show_23 : decode cX6_show 23 = .ok (.invokevirtual 70, 3) := by decide +kernel
theorem dX6_show_26 : decode cX6_show 26 = .ok (.ireturn, 1) := by decide +kernel
theorem dX6_show_27 : decode cX6_show 27 = .ok (.aload_n 0, 1) := by decide +kernel
theorem dX6_show_28 : decode cX6_show 28 = .ok (.getfield 35, 3) := by decide +kernel
theorem dX6_show_31 : decode cX6_show 31 = .ok (.iload_n 1, 1) := by decide +kernel
theorem dX6_show_32 : decode cX6_show 32 = .ok (.iload_n 2, 1) := by decide +kernel
theorem dX6_show_33 : decode cX6_show 33 = .ok (.invokevirtual 115, 3) := by decide +kernel
theorem dX6_show_36 : decode cX6_show 36 = .ok (.iconst 1, 1) := by decide +kernel
theorem dX6_show_37 : decode cX6_show 37 = .ok (.ireturn, 1) := by decide +kernel
theorem dX6_shut_0 : decode cX6_shut 0 = .ok (.aload_n 0, 1) := by decide +kernel
theorem dX6_shut_1 : decode cX6_shut 1 = .ok (.iload_n 1, 1) := by decide +kernel
theorem dX6_shut_2 : decode cX6_shut 2 = .ok (.invokevirtual 136, 3) := by decide +kernel
theorem dX6_shut_5 : decode cX6_shut 5 = .ok (.ifCond .ne 10, 3) := by decide +kernel
theorem dX6_shut_8 : decode cX6_shut 8 = .ok (.aload_n 0, 1) := by decide +kernel
theorem dX6_shut_9 : decode cX6_shut 9 = .ok (.bipush (-2), 2) := by decide +kernel
theorem dX6_shut_11 : decode cX6_shut 11 = .ok (.invokevirtual 70, 3) := by decide +kernel
theorem dX6_shut_14 : decode cX6_shut 14 = .ok (.ireturn, 1) := by decide +kernel
theorem dX6_shut_15 : decode cX6_shut 15 = .ok (.iload_n 2, 1) := by decide +kernel
theorem dX6_shut_16 : decode cX6_shut 16 = .ok (.ifCond .eq 7, 3) := by decide +kernel
theorem dX6_shut_19 : decode cX6_shut 19 = .ok (.iconst 1, 1) := by decide +kernel
theorem dX6_shut_20 : decode cX6_shut 20 = .ok (.goto 4, 3) := by decide +kernel
theorem dX6_shut_23 : decode cX6_shut 23 = .ok (.iconst 0, 1) := by decide +kernel
theorem dX6_shut_24 : decode cX6_shut 24 = .ok (.istore_n 3, 1) := by decide +kernel
theorem dX6_shut_25 : decode cX6_shut 25 = .ok (.aload_n 0, 1) := by decide +kernel
theorem dX6_shut_26 : decode cX6_shut 26 = .ok (.getfield 10, 3) := by decide +kernel
theorem dX6_shut_29 : decode cX6_shut 29 = .ok (.iload_n 1, 1) := by decide +kernel
theorem dX6_shut_30 : decode cX6_shut 30 = .ok (.bipush 6, 2) := by decide +kernel
theorem dX6_shut_32 : decode cX6_shut 32 = .ok (.invokevirtual 165, 3) := by decide +kernel
theorem dX6_shut_35 : decode cX6_shut 35 = .ok (.iload_n 3, 1) := by decide +kernel
theorem dX6_shut_36 : decode cX6_shut 36 = .ok (.if_icmp .ne 5, 3) := by decide +kernel
theorem dX6_shut_39 : decode cX6_shut 39 = .ok (.iconst 0, 1) := by decide +kernel
theorem dX6_shut_40 : decode cX6_shut 40 = .ok (.ireturn, 1) := by decide +kernel
theorem dX6_shut_41 : decode cX6_shut 41 = .ok (.aload_n 0, 1) := by decide +kernel
theorem dX6_shut_42 : decode cX6_shut 42 = .ok (.getfield 10, 3) := by decide +kernel
theorem dX6_shut_45 : decode cX6_shut 45 = .ok (.getfield 168, 3) := by decide +kernel
theorem dX6_shut_48 : decode cX6_shut 48 = .ok (.iload_n 1, 1) := by decide +kernel
theorem dX6_shut_49 : decode cX6_shut 49 = .ok (.bipush 7, 2) := by decide +kernel
theorem dX6_shut_51 : decode cX6_shut 51 = .ok (.imul, 1) := by decide +kernel
theorem dX6_shut_52 : decode cX6_shut 52 = .ok (.bipush 6, 2) := by decide +kernel
theorem dX6_shut_54 : decode cX6_shut 54 = .ok (.iadd, 1) := by decide +kernel
theorem dX6_shut_55 : decode cX6_shut 55 = .ok (.iload_n 3, 1) := by decide +kernel
theorem dX6_shut_56 : decode cX6_shut 56 = .ok (.iastore, 1) := by decide +kernel
theorem dX6_shut_57 : decode cX6_shut 57 = .ok (.iconst 1, 1) := by decide +kernel
theorem dX6_shut_58 : decode cX6_shut 58 = .ok (.ireturn, 1) := by decide +kernel
theorem dX6_stand_0 : decode cX6_stand 0 = .ok (.aload_n 0, 1) := by decide +kernel
theorem dX6_stand_1 : decode cX6_stand 1 = .ok (.iload_n 1, 1) := by decide +kernel
theorem dX6_stand_2 : decode cX6_stand 2 = .ok (.invokevirtual 112, 3) := by decide +kernel
theorem dX6_stand_5 : decode cX6_stand 5 = .ok (.ifCond .eq 12, 3) := by decide +kernel
theorem dX6_stand_8 : decode cX6_stand 8 = .ok (.iload_n 2, 1) := by decide +kernel
theorem dX6_stand_9 : decode cX6_stand 9 = .ok (.iconst 0, 1) := by decide +kernel
theorem dX6_stand_10 : decode cX6_stand 10 = .ok (.iconst 2, 1) := by decide +kernel
theorem dX6_stand_11 : decode cX6_stand 11 = .ok (.invokestatic 66, 3) := by decide +kernel
theorem dX6_stand_14 : decode cX6_stand 14 = .ok (.ifCond .ne 10, 3) := by decide +kernel
theorem dX6_stand_17 : decode cX6_stand 17 = .ok (.aload_n 0, 1) := by decide +kernel
theorem dX6_stand_18 : decode cX6_stand 18 = .ok (.bipush (-2), 2) := by decide +kernel
theorem dX6_stand_20 : decode cX6_stand 20 = .ok (.invokevirtual 70, 3) := by decide +kernel
theorem dX6_stand_23 : decode cX6_stand 23 = .ok (.ireturn, 1) := by decide +kernel
theorem dX6_stand_24 : decode cX6_stand 24 = .ok (.bipush 7, 2) := by decide +kernel
theorem dX6_stand_26 : decode cX6_stand 26 = .ok (.iload_n 2, 1) := by decide +kernel
theorem dX6_stand_27 : decode cX6_stand 27 = .ok (.iadd, 1) := by decide +kernel
theorem dX6_stand_28 : decode cX6_stand 28 = .ok (.istore 4, 2) := by decide +kernel
theorem dX6_stand_30 : decode cX6_stand 30 = .ok (.iload 4, 2) := by decide +kernel
theorem dX6_stand_32 : decode cX6_stand 32 = .ok (.bipush 7, 2) := by decide +kernel
theorem dX6_stand_34 : decode cX6_stand 34 = .ok (.if_icmp .ne 27, 3) := by decide +kernel
theorem dX6_stand_37 : decode cX6_stand 37 = .ok (.iload_n 3, 1) := by decide +kernel
theorem dX6_stand_38 : decode cX6_stand 38 = .ok (.ifCond .eq 23, 3) := by decide +kernel
theorem dX6_stand_41 : decode cX6_stand 41 = .ok (.aload_n 0, 1) := by decide +kernel
theorem dX6_stand_42 : decode cX6_stand 42 = .ok (.getfield 10, 3) := by decide +kernel
theorem dX6_stand_45 : decode cX6_stand 45 = .ok (.iload_n 1, 1) := by decide +kernel
theorem dX6_stand_46 : decode cX6_stand 46 = .ok (.iconst 1, 1) := by decide +kernel
theorem dX6_stand_47 : decode cX6_stand 47 = .ok (.invokevirtual 159, 3) := by decide +kernel
theorem dX6_stand_50 : decode cX6_stand 50 = .ok (.iconst 3, 1) := by decide +kernel
theorem dX6_stand_51 : decode cX6_stand 51 = .ok (.if_icmp .ne 10, 3) := by decide +kernel
theorem dX6_stand_54 : decode cX6_stand 54 = .ok (.aload_n 0, 1) := by decide +kernel
theorem dX6_stand_55 : decode cX6_stand 55 = .ok (.bipush (-5), 2) := by decide +kernel
theorem dX6_stand_57 : decode cX6_stand 57 = .ok (.invokevirtual 70, 3) := by decide +kernel
theorem dX6_stand_60 : decode cX6_stand 60 = .ok (.ireturn, 1) := by decide +kernel
theorem dX6_stand_61 : decode cX6_stand 61 = .ok (.iload_n 3, 1) := by decide +kernel
theorem dX6_stand_62 : decode cX6_stand 62 = .ok (.ifCond .eq 7, 3) := by decide +kernel
theorem dX6_stand_65 : decode cX6_stand 65 = .ok (.iconst 1, 1) := by decide +kernel
theorem dX6_stand_66 : decode cX6_stand 66 = .ok (.goto 4, 3) := by decide +kernel
theorem dX6_stand_69 : decode cX6_stand 69 = .ok (.iconst 0, 1) := by decide +kernel
theorem dX6_stand_70 : decode cX6_stand 70 = .ok (.istore 5, 2) := by decide +kernel
theorem dX6_stand_72 : decode cX6_stand 72 = .ok (.aload_n 0, 1) := by decide +kernel
theorem dX6_stand_73 : decode cX6_stand 73 = .ok (.getfield 10, 3) := by decide +kernel
theorem dX6_stand_76 : decode cX6_stand 76 = .ok (.iload_n 1, 1) := by decide +kernel
theorem dX6_stand_77 : decode cX6_stand 77 = .ok (.iload 4, 2) := by decide +kernel
theorem dX6_stand_79 : decode cX6_stand 79 = .ok (.invokevirtual 159, 3) := by decide +kernel
theorem dX6_stand_82 : decode cX6_stand 82 = .ok (.iload 5, 2) := by decide +kernel
theorem dX6_stand_84 : decode cX6_stand 84 = .ok (.if_icmp .ne 5, 3) := by decide +kernel
theorem dX6_stand_87 : decode cX6_stand 87 = .ok (.iconst 0, 1) := by decide +kernel
theorem dX6_stand_88 : decode cX6_stand 88 = .ok (.ireturn, 1) := by decide +kernel
theorem dX6_stand_89 : decode cX6_stand 89 = .ok (.aload_n 0, 1) := by decide +kernel
theorem dX6_stand_90 : decode cX6_stand 90 = .ok (.getfield 10, 3) := by decide +kernel
theorem dX6_stand_93 : decode cX6_stand 93 = .ok (.iload_n 1, 1) := by decide +kernel
theorem dX6_stand_94 : decode cX6_stand 94 = .ok (.iload 4, 2) := by decide +kernel
theorem dX6_stand_96 : decode cX6_stand 96 = .ok (.iload 5, 2) := by decide +kernel
theorem dX6_stand_98 : decode cX6_stand 98 = .ok (.invokevirtual 162, 3) := by decide +kernel
theorem dX6_stand_101 : decode cX6_stand 101 = .ok (.iconst 1, 1) := by decide +kernel
theorem dX6_stand_102 : decode cX6_stand 102 = .ok (.ireturn, 1) := by decide +kernel
theorem dX6_strain_0 : decode cX6_strain 0 = .ok (.aload_n 0, 1) := by decide +kernel
theorem dX6_strain_1 : decode cX6_strain 1 = .ok (.iload_n 1, 1) := by decide +kernel
theorem dX6_strain_2 : decode cX6_strain 2 = .ok (.iload_n 2, 1) := by decide +kernel
theorem dX6_strain_3 : decode cX6_strain 3 = .ok (.invokevirtual 200, 3) := by decide +kernel
theorem dX6_strain_6 : decode cX6_strain 6 = .ok (.ifCond .eq 11, 3) := by decide +kernel
theorem dX6_strain_9 : decode cX6_strain 9 = .ok (.aload_n 0, 1) := by decide +kernel
theorem dX6_strain_10 : decode cX6_strain 10 = .ok (.iload_n 3, 1) := by decide +kernel
theorem dX6_strain_11 : decode cX6_strain 11 = .ok (.invokevirtual 112, 3) := by decide +kernel
theorem dX6_strain_14 : decode cX6_strain 14 = .ok (.ifCond .ne 10, 3) := by decide +kernel
theorem dX6_strain_17 : decode cX6_strain 17 = .ok (.aload_n 0, 1) := by decide +kernel
theorem dX6_strain_18 : decode cX6_strain 18 = .ok (.bipush (-2), 2) := by decide +kernel
theorem dX6_strain_20 : decode cX6_strain 20 = .ok (.invokevirtual 70, 3) := by decide +kernel
theorem dX6_strain_23 : decode cX6_strain 23 = .ok (.ireturn, 1) := by decide +kernel
theorem dX6_strain_24 : decode cX6_strain 24 = .ok (.aload_n 0, 1) := by decide +kernel
theorem dX6_strain_25 : decode cX6_strain 25 = .ok (.getfield 28, 3) := by decide +kernel
theorem dX6_strain_28 : decode cX6_strain 28 = .ok (.getfield 203, 3) := by decide +kernel
theorem dX6_strain_31 : decode cX6_strain 31 = .ok (.aload_n 0, 1) := by decide +kernel
theorem dX6_strain_32 : decode cX6_strain 32 = .ok (.getfield 10, 3) := by decide +kernel
theorem dX6_strain_35 : decode cX6_strain 35 = .ok (.iload_n 1, 1) := by decide +kernel
theorem dX6_strain_36 : decode cX6_strain 36 = .ok (.iload_n 2, 1) := by decide +kernel
theorem dX6_strain_37 : decode cX6_strain 37 = .ok (.invokevirtual 207, 3) := by decide +kernel
theorem dX6_strain_40 : decode cX6_strain 40 = .ok (.aload_n 0, 1) := by decide +kernel
theorem dX6_strain_41 : decode cX6_strain 41 = .ok (.getfield 28, 3) := by decide +kernel
theorem dX6_strain_44 : decode cX6_strain 44 = .ok (.getfield 203, 3) := by decide +kernel
theorem dX6_strain_47 : decode cX6_strain 47 = .ok (.aload_n 0, 1) := by decide +kernel
theorem dX6_strain_48 : decode cX6_strain 48 = .ok (.getfield 10, 3) := by decide +kernel
theorem dX6_strain_51 : decode cX6_strain 51 = .ok (.iload_n 3, 1) := by decide +kernel
theorem dX6_strain_52 : decode cX6_strain 52 = .ok (.iconst 2, 1) := by decide +kernel
theorem dX6_strain_53 : decode cX6_strain 53 = .ok (.invokevirtual 159, 3) := by decide +kernel
theorem dX6_strain_56 : decode cX6_strain 56 = .ok (.invokevirtual 216, 3) := by decide +kernel
theorem dX6_strain_59 : decode cX6_strain 59 = .ok (.ireturn, 1) := by decide +kernel
theorem dX6_waggon_0 : decode cX6_waggon 0 = .ok (.iload_n 1, 1) := by decide +kernel
theorem dX6_waggon_1 : decode cX6_waggon 1 = .ok (.iconst 2, 1) := by decide +kernel
theorem dX6_waggon_2 : decode cX6_waggon 2 = .ok (.bipush 12, 2) := by decide +kernel
theorem dX6_waggon_4 : decode cX6_waggon 4 = .ok (.invokestatic 66, 3) := by decide +kernel
theorem dX6_waggon_7 : decode cX6_waggon 7 = .ok (.ifCond .eq 23, 3) := by decide +kernel
theorem dX6_waggon_10 : decode cX6_waggon 10 = .ok (.iload_n 2, 1) := by decide +kernel
theorem dX6_waggon_11 : decode cX6_waggon 11 = .ok (.iconst 1, 1) := by decide +kernel
theorem dX6_waggon_12 : decode cX6_waggon 12 = .ok (.bipush 9, 2) := by decide +kernel
theorem dX6_waggon_14 : decode cX6_waggon 14 = .ok (.invokestatic 66, 3) := by decide +kernel
theorem dX6_waggon_17 : decode cX6_waggon 17 = .ok (.ifCond .eq 13, 3) := by decide +kernel
theorem dX6_waggon_20 : decode cX6_waggon 20 = .ok (.iload_n 3, 1) := by decide +kernel
theorem dX6_waggon_21 : decode cX6_waggon 21 = .ok (.iconst 0, 1) := by decide +kernel
theorem dX6_waggon_22 : decode cX6_waggon 22 = .ok (.bipush 99, 2) := by decide +kernel
theorem dX6_waggon_24 : decode cX6_waggon 24 = .ok (.invokestatic 66, 3) := by decide +kernel
theorem dX6_waggon_27 : decode cX6_waggon 27 = .ok (.ifCond .ne 10, 3) := by decide +kernel
theorem dX6_waggon_30 : decode cX6_waggon 30 = .ok (.aload_n 0, 1) := by decide +kernel
theorem dX6_waggon_31 : decode cX6_waggon 31 = .ok (.bipush (-2), 2) := by decide +kernel
theorem dX6_waggon_33 : decode cX6_waggon 33 = .ok (.invokevirtual 70, 3) := by decide +kernel
theorem dX6_waggon_36 : decode cX6_waggon 36 = .ok (.ireturn, 1) := by decide +kernel
theorem dX6_waggon_37 : decode cX6_waggon 37 = .ok (.aload_n 0, 1) := by decide +kernel
theorem dX6_waggon_38 : decode cX6_waggon 38 = .ok (.getfield 10, 3) := by decide +kernel
theorem dX6_waggon_41 : decode cX6_waggon 41 = .ok (.iconst 2, 1) := by decide +kernel
theorem dX6_waggon_42 : decode cX6_waggon 42 = .ok (.invokevirtual 129, 3) := by decide +kernel
theorem dX6_waggon_45 : decode cX6_waggon 45 = .ok (.ifCond .ne 10, 3) := by decide +kernel
theorem dX6_waggon_48 : decode cX6_waggon 48 = .ok (.aload_n 0, 1) := by decide +kernel
theorem dX6_waggon_49 : decode cX6_waggon 49 = .ok (.bipush (-6), 2) := by decide +kernel
theorem dX6_waggon_51 : decode cX6_waggon 51 = .ok (.invokevirtual 70, 3) := by decide +kernel
theorem dX6_waggon_54 : decode cX6_waggon 54 = .ok (.ireturn, 1) := by decide +kernel
theorem dX6_waggon_55 : decode cX6_waggon 55 = .ok (.aload_n 0, 1) := by decide +kernel
theorem dX6_waggon_56 : decode cX6_waggon 56 = .ok (.getfield 10, 3) := by decide +kernel
theorem dX6_waggon_59 : decode cX6_waggon 59 = .ok (.iload_n 1, 1) := by decide +kernel
theorem dX6_waggon_60 : decode cX6_waggon 60 = .ok (.iload_n 2, 1) := by decide +kernel
theorem dX6_waggon_61 : decode cX6_waggon 61 = .ok (.iload_n 3, 1) := by decide +kernel
theorem dX6_waggon_62 : decode cX6_waggon 62 = .ok (.invokevirtual 146, 3) := by decide +kernel
theorem dX6_waggon_65 : decode cX6_waggon 65 = .ok (.ireturn, 1) := by decide +kernel
theorem dX6_wipe_0 : decode cX6_wipe 0 = .ok (.aload_n 0, 1) := by decide +kernel
theorem dX6_wipe_1 : decode cX6_wipe 1 = .ok (.getfield 42, 3) := by decide +kernel
theorem dX6_wipe_4 : decode cX6_wipe 4 = .ok (.getfield 171, 3) := by decide +kernel
theorem dX6_wipe_7 : decode cX6_wipe 7 = .ok (.istore_n 1, 1) := by decide +kernel
theorem dX6_wipe_8 : decode cX6_wipe 8 = .ok (.aload_n 0, 1) := by decide +kernel
theorem dX6_wipe_9 : decode cX6_wipe 9 = .ok (.getfield 42, 3) := by decide +kernel
theorem dX6_wipe_12 : decode cX6_wipe 12 = .ok (.iconst 0, 1) := by decide +kernel
theorem dX6_wipe_13 : decode cX6_wipe 13 = .ok (.putfield 171, 3) := by decide +kernel
theorem dX6_wipe_16 : decode cX6_wipe 16 = .ok (.iload_n 1, 1) := by decide +kernel
theorem dX6_wipe_17 : decode cX6_wipe 17 = .ok (.ireturn, 1) := by decide +kernel

