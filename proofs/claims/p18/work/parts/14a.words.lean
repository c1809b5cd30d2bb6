theorem q_0 : Cond.selects RX6 yX6_refuse yX6_refuse ∈ oh_t := oh_of (i := 0) (by decide +kernel) rfl
theorem q_1 : Cond.selects RX6 yX6_whyNoRow yX6_whyNoRow ∈ oh_t := oh_of (i := 1) (by decide +kernel) rfl
theorem q_15 : Cond.selects RX6 yX6_isWaggon yX6_isWaggon ∈ oh_t := oh_of (i := 15) (by decide +kernel) rfl
theorem q_16 : Cond.selects RX6 yX6_isPack yX6_isPack ∈ oh_t := oh_of (i := 16) (by decide +kernel) rfl
theorem q_74 : Cond.initialized RJ10 ∈ oh_t := oh_of (i := 74) (by decide +kernel) rfl
theorem q_100 : Cond.fieldLink RX6 273 "OneHeavyLoad$Land" "counts" "[I" ∈ oh_t := oh_of (i := 100) (by decide +kernel) rfl
theorem q_201 : Cond.fieldLink RX6 81 "OneHeavyLoad$Shelves" "size" "[I" ∈ oh_t := oh_of (i := 201) (by decide +kernel) rfl
theorem q_258 : Cond.fieldLink RX6 10 "OneHeavyLoad" "now" "LOneHeavyLoad$Land;" ∈ oh_t := oh_of (i := 258) (by decide +kernel) rfl
theorem q_261 : Cond.fieldLink RX6 28 "OneHeavyLoad" "ways" "LOneHeavyLoad$Ways;" ∈ oh_t := oh_of (i := 261) (by decide +kernel) rfl
theorem q_262 : Cond.fieldLink RX6 35 "OneHeavyLoad" "shelves" "LOneHeavyLoad$Shelves;" ∈ oh_t := oh_of (i := 262) (by decide +kernel) rfl
theorem q_265 : Cond.fieldLink RX6 55 "OneHeavyLoad" "refusals" "[I" ∈ oh_t := oh_of (i := 265) (by decide +kernel) rfl
theorem q_266 : Cond.fieldLink RX6 59 "OneHeavyLoad" "bestPack" "[I" ∈ oh_t := oh_of (i := 266) (by decide +kernel) rfl
theorem q_290 : Cond.methodLink RX6 62 yX6_isShelf ∈ oh_t := oh_of (i := 290) (by decide +kernel) rfl
theorem q_291 : Cond.static yX6_isShelf ∈ oh_t := oh_of (i := 291) (by decide +kernel) rfl
theorem q_292 : Cond.code yX6_isShelf cX6_isShelf 1 (some .boolean) ∈ oh_t := oh_of (i := 292) (by decide +kernel) rfl
theorem q_296 : Cond.methodLink RX6 70 yX6_refuse ∈ oh_t := oh_of (i := 296) (by decide +kernel) rfl
theorem q_298 : Cond.instanceMethod yX6_refuse ∈ oh_t := oh_of (i := 298) (by decide +kernel) rfl
theorem q_299 : Cond.code yX6_refuse cX6_refuse 3 (some .int) ∈ oh_t := oh_of (i := 299) (by decide +kernel) rfl
theorem q_308 : Cond.methodLink RX6 78 yX6_whyNoRow ∈ oh_t := oh_of (i := 308) (by decide +kernel) rfl
theorem q_310 : Cond.instanceMethod yX6_whyNoRow ∈ oh_t := oh_of (i := 310) (by decide +kernel) rfl
theorem q_311 : Cond.code yX6_whyNoRow cX6_whyNoRow 2 (some .int) ∈ oh_t := oh_of (i := 311) (by decide +kernel) rfl
theorem q_312 : Cond.methodLink RX6 88 yX3_holdsBridge ∈ oh_t := oh_of (i := 312) (by decide +kernel) rfl
theorem q_316 : Cond.methodLink RX6 95 yX3_holdsNothing ∈ oh_t := oh_of (i := 316) (by decide +kernel) rfl
theorem q_345 : Cond.methodLink RX3 44 arraycopyName ∈ oh_t := oh_of (i := 345) (by decide +kernel) rfl
theorem q_346 : Cond.static arraycopyName ∈ oh_t := oh_of (i := 346) (by decide +kernel) rfl
theorem q_347 : Cond.native arraycopyName ∈ oh_t := oh_of (i := 347) (by decide +kernel) rfl
theorem q_353 : Cond.methodLink RX6 105 yX3_elementAt ∈ oh_t := oh_of (i := 353) (by decide +kernel) rfl
theorem q_354 : Cond.instanceMethod yX3_elementAt ∈ oh_t := oh_of (i := 354) (by decide +kernel) rfl
theorem q_355 : Cond.selects RX3 yX3_elementAt yX3_elementAt ∈ oh_t := oh_of (i := 355) (by decide +kernel) rfl
theorem q_356 : Cond.code yX3_elementAt cX3_elementAt 3 (some .long) ∈ oh_t := oh_of (i := 356) (by decide +kernel) rfl
theorem q_392 : Cond.methodLink RX6 159 yX0_ofBridge ∈ oh_t := oh_of (i := 392) (by decide +kernel) rfl
theorem q_393 : Cond.methodLink RX6 191 yX0_bearsAxle ∈ oh_t := oh_of (i := 393) (by decide +kernel) rfl
theorem q_401 : Cond.methodLink RX6 184 yX0_isPropped ∈ oh_t := oh_of (i := 401) (by decide +kernel) rfl
theorem q_405 : Cond.methodLink RX6 187 yX0_bearsAll ∈ oh_t := oh_of (i := 405) (by decide +kernel) rfl
theorem q_413 : Cond.methodLink RX6 126 yX6_isPlace ∈ oh_t := oh_of (i := 413) (by decide +kernel) rfl
theorem q_414 : Cond.static yX6_isPlace ∈ oh_t := oh_of (i := 414) (by decide +kernel) rfl
theorem q_415 : Cond.code yX6_isPlace cX6_isPlace 1 (some .boolean) ∈ oh_t := oh_of (i := 415) (by decide +kernel) rfl
theorem q_474 : Cond.methodLink RX6 162 yX0_putBridgeColumn ∈ oh_t := oh_of (i := 474) (by decide +kernel) rfl
theorem q_679 : Cond.methodLink RX6 194 yX6_isWaggon ∈ oh_t := oh_of (i := 679) (by decide +kernel) rfl
theorem q_681 : Cond.instanceMethod yX6_isWaggon ∈ oh_t := oh_of (i := 681) (by decide +kernel) rfl
theorem q_682 : Cond.code yX6_isWaggon cX6_isWaggon 2 (some .boolean) ∈ oh_t := oh_of (i := 682) (by decide +kernel) rfl
theorem q_695 : Cond.methodLink RX6 200 yX6_isPack ∈ oh_t := oh_of (i := 695) (by decide +kernel) rfl
theorem q_697 : Cond.instanceMethod yX6_isPack ∈ oh_t := oh_of (i := 697) (by decide +kernel) rfl
theorem q_698 : Cond.code yX6_isPack cX6_isPack 3 (some .boolean) ∈ oh_t := oh_of (i := 698) (by decide +kernel) rfl
theorem q_699 : Cond.methodLink RX6 282 yX0_setsOfParts ∈ oh_t := oh_of (i := 699) (by decide +kernel) rfl
theorem q_700 : Cond.instanceMethod yX0_setsOfParts ∈ oh_t := oh_of (i := 700) (by decide +kernel) rfl
theorem q_701 : Cond.selects RX0 yX0_setsOfParts yX0_setsOfParts ∈ oh_t := oh_of (i := 701) (by decide +kernel) rfl
theorem q_702 : Cond.code yX0_setsOfParts cX0_setsOfParts 1 (some .int) ∈ oh_t := oh_of (i := 702) (by decide +kernel) rfl
theorem q_780 : Cond.methodLink RX6 242 yX5_leastCoin ∈ oh_t := oh_of (i := 780) (by decide +kernel) rfl
theorem q_781 : Cond.instanceMethod yX5_leastCoin ∈ oh_t := oh_of (i := 781) (by decide +kernel) rfl
theorem q_782 : Cond.selects RX5 yX5_leastCoin yX5_leastCoin ∈ oh_t := oh_of (i := 782) (by decide +kernel) rfl
theorem q_783 : Cond.code yX5_leastCoin cX5_leastCoin 6 (some .int) ∈ oh_t := oh_of (i := 783) (by decide +kernel) rfl
theorem q_803 : Cond.constant RX6 255 1000000000 ∈ oh_t := oh_of (i := 803) (by decide +kernel) rfl
theorem q_825 : Cond.methodLink RX6 333 yX0_sumOfParts ∈ oh_t := oh_of (i := 825) (by decide +kernel) rfl
theorem q_838 : Cond.methodLink RX6 326 yX5_setOut ∈ oh_t := oh_of (i := 838) (by decide +kernel) rfl
theorem q_839 : Cond.instanceMethod yX5_setOut ∈ oh_t := oh_of (i := 839) (by decide +kernel) rfl
theorem q_840 : Cond.selects RX5 yX5_setOut yX5_setOut ∈ oh_t := oh_of (i := 840) (by decide +kernel) rfl
theorem q_841 : Cond.code yX5_setOut cX5_setOut 2 none ∈ oh_t := oh_of (i := 841) (by decide +kernel) rfl
theorem q_842 : Cond.methodLink RX6 329 yX5_walk ∈ oh_t := oh_of (i := 842) (by decide +kernel) rfl
theorem q_843 : Cond.instanceMethod yX5_walk ∈ oh_t := oh_of (i := 843) (by decide +kernel) rfl
theorem q_844 : Cond.selects RX5 yX5_walk yX5_walk ∈ oh_t := oh_of (i := 844) (by decide +kernel) rfl
theorem q_845 : Cond.code yX5_walk cX5_walk 5 (some .boolean) ∈ oh_t := oh_of (i := 845) (by decide +kernel) rfl
theorem pdVX0_setsOfParts : yX0_setsOfParts.cls = RX0 ∧ yX0_setsOfParts.cls ≠ "java/lang/invoke/MethodHandle" ∧ yX0_setsOfParts.cls ≠ "java/lang/invoke/VarHandle" ∧ (parseMethodDescriptor yX0_setsOfParts.desc).map (fun d => d.parameters.length) = some 0 := by decide +kernel
theorem pdVX3_elementAt : yX3_elementAt.cls = RX3 ∧ yX3_elementAt.cls ≠ "java/lang/invoke/MethodHandle" ∧ yX3_elementAt.cls ≠ "java/lang/invoke/VarHandle" ∧ (parseMethodDescriptor yX3_elementAt.desc).map (fun d => d.parameters.length) = some 2 := by decide +kernel
theorem pdVX5_leastCoin : yX5_leastCoin.cls = RX5 ∧ yX5_leastCoin.cls ≠ "java/lang/invoke/MethodHandle" ∧ yX5_leastCoin.cls ≠ "java/lang/invoke/VarHandle" ∧ (parseMethodDescriptor yX5_leastCoin.desc).map (fun d => d.parameters.length) = some 5 := by decide +kernel
theorem pdVX5_setOut : yX5_setOut.cls = RX5 ∧ yX5_setOut.cls ≠ "java/lang/invoke/MethodHandle" ∧ yX5_setOut.cls ≠ "java/lang/invoke/VarHandle" ∧ (parseMethodDescriptor yX5_setOut.desc).map (fun d => d.parameters.length) = some 1 := by decide +kernel
theorem pdVX5_walk : yX5_walk.cls = RX5 ∧ yX5_walk.cls ≠ "java/lang/invoke/MethodHandle" ∧ yX5_walk.cls ≠ "java/lang/invoke/VarHandle" ∧ (parseMethodDescriptor yX5_walk.desc).map (fun d => d.parameters.length) = some 1 := by decide +kernel
theorem pdVX6_isPack : yX6_isPack.cls = RX6 ∧ yX6_isPack.cls ≠ "java/lang/invoke/MethodHandle" ∧ yX6_isPack.cls ≠ "java/lang/invoke/VarHandle" ∧ (parseMethodDescriptor yX6_isPack.desc).map (fun d => d.parameters.length) = some 2 := by decide +kernel
theorem pdX6_isPlace : yX6_isPlace.cls ≠ "java/lang/invoke/MethodHandle" ∧ yX6_isPlace.cls ≠ "java/lang/invoke/VarHandle" ∧ (parseMethodDescriptor yX6_isPlace.desc).map (fun d => d.parameters.length) = some 1 := by decide +kernel
theorem pdX6_isShelf : yX6_isShelf.cls ≠ "java/lang/invoke/MethodHandle" ∧ yX6_isShelf.cls ≠ "java/lang/invoke/VarHandle" ∧ (parseMethodDescriptor yX6_isShelf.desc).map (fun d => d.parameters.length) = some 1 := by decide +kernel
theorem pdVX6_isWaggon : yX6_isWaggon.cls = RX6 ∧ yX6_isWaggon.cls ≠ "java/lang/invoke/MethodHandle" ∧ yX6_isWaggon.cls ≠ "java/lang/invoke/VarHandle" ∧ (parseMethodDescriptor yX6_isWaggon.desc).map (fun d => d.parameters.length) = some 1 := by decide +kernel
theorem pdVX6_refuse : yX6_refuse.cls = RX6 ∧ yX6_refuse.cls ≠ "java/lang/invoke/MethodHandle" ∧ yX6_refuse.cls ≠ "java/lang/invoke/VarHandle" ∧ (parseMethodDescriptor yX6_refuse.desc).map (fun d => d.parameters.length) = some 1 := by decide +kernel
theorem pdVX6_whyNoRow : yX6_whyNoRow.cls = RX6 ∧ yX6_whyNoRow.cls ≠ "java/lang/invoke/MethodHandle" ∧ yX6_whyNoRow.cls ≠ "java/lang/invoke/VarHandle" ∧ (parseMethodDescriptor yX6_whyNoRow.desc).map (fun d => d.parameters.length) = some 1 := by decide +kernel
theorem dX3_copyElements_0 : decode cX3_copyElements 0 = .ok (.aload_n 0, 1) := by decide +kernel
theorem dX3_copyElements_1 : decode cX3_copyElements 1 = .ok (.getfield 18, 3) := by decide +kernel
theorem dX3_copyElements_4 : decode cX3_copyElements 4 = .ok (.iload_n 1, 1) := by decide +kernel
theorem dX3_copyElements_5 : decode cX3_copyElements 5 = .ok (.bipush 40, 2) := by decide +kernel
theorem dX3_copyElements_7 : decode cX3_copyElements 7 = .ok (.imul, 1) := by decide +kernel
theorem dX3_copyElements_8 : decode cX3_copyElements 8 = .ok (.iload_n 3, 1) := by decide +kernel
theorem dX3_copyElements_9 : decode cX3_copyElements 9 = .ok (.iadd, 1) := by decide +kernel
theorem dX3_copyElements_10 : decode cX3_copyElements 10 = .ok (.aload_n 0, 1) := by decide +kernel
theorem dX3_copyElements_11 : decode cX3_copyElements 11 = .ok (.getfield 18, 3) := by decide +kernel
theorem dX3_copyElements_14 : decode cX3_copyElements 14 = .ok (.iload_n 2, 1) := by decide +kernel
theorem dX3_copyElements_15 : decode cX3_copyElements 15 = .ok (.bipush 40, 2) := by decide +kernel
theorem dX3_copyElements_17 : decode cX3_copyElements 17 = .ok (.imul, 1) := by decide +kernel
theorem dX3_copyElements_18 : decode cX3_copyElements 18 = .ok (.iload 4, 2) := by decide +kernel
theorem dX3_copyElements_20 : decode cX3_copyElements 20 = .ok (.iadd, 1) := by decide +kernel
theorem dX3_copyElements_21 : decode cX3_copyElements 21 = .ok (.iload 5, 2) := by decide +kernel
theorem dX3_copyElements_23 : decode cX3_copyElements 23 = .ok (.invokestatic 44, 3) := by decide +kernel
theorem dX3_copyElements_26 : decode cX3_copyElements 26 = .ok (.return_, 1) := by decide +kernel
theorem dX6_coinIfFallen_0 : decode cX6_coinIfFallen 0 = .ok (.aload_n 0, 1) := by decide +kernel
theorem dX6_coinIfFallen_1 : decode cX6_coinIfFallen 1 = .ok (.getfield 10, 3) := by decide +kernel
theorem dX6_coinIfFallen_4 : decode cX6_coinIfFallen 4 = .ok (.iload_n 1, 1) := by decide +kernel
theorem dX6_coinIfFallen_5 : decode cX6_coinIfFallen 5 = .ok (.bipush 8, 2) := by decide +kernel
theorem dX6_coinIfFallen_7 : decode cX6_coinIfFallen 7 = .ok (.invokevirtual 159, 3) := by decide +kernel
theorem dX6_coinIfFallen_10 : decode cX6_coinIfFallen 10 = .ok (.istore 6, 2) := by decide +kernel
theorem dX6_coinIfFallen_12 : decode cX6_coinIfFallen 12 = .ok (.aload_n 0, 1) := by decide +kernel
theorem dX6_coinIfFallen_13 : decode cX6_coinIfFallen 13 = .ok (.getfield 10, 3) := by decide +kernel
theorem dX6_coinIfFallen_16 : decode cX6_coinIfFallen 16 = .ok (.iload_n 1, 1) := by decide +kernel
theorem dX6_coinIfFallen_17 : decode cX6_coinIfFallen 17 = .ok (.bipush 8, 2) := by decide +kernel
theorem dX6_coinIfFallen_19 : decode cX6_coinIfFallen 19 = .ok (.iconst 1, 1) := by decide +kernel
theorem dX6_coinIfFallen_20 : decode cX6_coinIfFallen 20 = .ok (.invokevirtual 162, 3) := by decide +kernel
theorem dX6_coinIfFallen_23 : decode cX6_coinIfFallen 23 = .ok (.aload_n 0, 1) := by decide +kernel
theorem dX6_coinIfFallen_24 : decode cX6_coinIfFallen 24 = .ok (.getfield 28, 3) := by decide +kernel
theorem dX6_coinIfFallen_27 : decode cX6_coinIfFallen 27 = .ok (.iload_n 2, 1) := by decide +kernel
theorem dX6_coinIfFallen_28 : decode cX6_coinIfFallen 28 = .ok (.iload_n 3, 1) := by decide +kernel
theorem dX6_coinIfFallen_29 : decode cX6_coinIfFallen 29 = .ok (.iload 4, 2) := by decide +kernel
theorem dX6_coinIfFallen_31 : decode cX6_coinIfFallen 31 = .ok (.iload 5, 2) := by decide +kernel
theorem dX6_coinIfFallen_33 : decode cX6_coinIfFallen 33 = .ok (.iconst 1, 1) := by decide +kernel
theorem dX6_coinIfFallen_34 : decode cX6_coinIfFallen 34 = .ok (.invokevirtual 242, 3) := by decide +kernel
theorem dX6_coinIfFallen_37 : decode cX6_coinIfFallen 37 = .ok (.istore 7, 2) := by decide +kernel
theorem dX6_coinIfFallen_39 : decode cX6_coinIfFallen 39 = .ok (.aload_n 0, 1) := by decide +kernel
theorem dX6_coinIfFallen_40 : decode cX6_coinIfFallen 40 = .ok (.getfield 10, 3) := by decide +kernel
theorem dX6_coinIfFallen_43 : decode cX6_coinIfFallen 43 = .ok (.iload_n 1, 1) := by decide +kernel
theorem dX6_coinIfFallen_44 : decode cX6_coinIfFallen 44 = .ok (.bipush 8, 2) := by decide +kernel
theorem dX6_coinIfFallen_46 : decode cX6_coinIfFallen 46 = .ok (.iload 6, 2) := by decide +kernel
theorem dX6_coinIfFallen_48 : decode cX6_coinIfFallen 48 = .ok (.invokevirtual 162, 3) := by decide +kernel
theorem dX6_coinIfFallen_51 : decode cX6_coinIfFallen 51 = .ok (.iload 7, 2) := by decide +kernel
theorem dX6_coinIfFallen_53 : decode cX6_coinIfFallen 53 = .ok (.ireturn, 1) := by decide +kernel
theorem dX6_findBest_0 : decode cX6_findBest 0 = .ok (.aload_n 0, 1) := by decide +kernel
theorem dX6_findBest_1 : decode cX6_findBest 1 = .ok (.getfield 59, 3) := by decide +kernel
theorem dX6_findBest_4 : decode cX6_findBest 4 = .ok (.iconst 2, 1) := by decide +kernel
theorem dX6_findBest_5 : decode cX6_findBest 5 = .ok (.ldc 255, 2) := by decide +kernel
theorem dX6_findBest_7 : decode cX6_findBest 7 = .ok (.iastore, 1) := by decide +kernel
theorem dX6_findBest_8 : decode cX6_findBest 8 = .ok (.iconst 0, 1) := by decide +kernel
theorem dX6_findBest_9 : decode cX6_findBest 9 = .ok (.istore_n 3, 1) := by decide +kernel
theorem dX6_findBest_10 : decode cX6_findBest 10 = .ok (.iload_n 3, 1) := by decide +kernel
theorem dX6_findBest_11 : decode cX6_findBest 11 = .ok (.aload_n 0, 1) := by decide +kernel
theorem dX6_findBest_12 : decode cX6_findBest 12 = .ok (.getfield 10, 3) := by decide +kernel
theorem dX6_findBest_15 : decode cX6_findBest 15 = .ok (.getfield 273, 3) := by decide +kernel
theorem dX6_findBest_18 : decode cX6_findBest 18 = .ok (.iconst 2, 1) := by decide +kernel
theorem dX6_findBest_19 : decode cX6_findBest 19 = .ok (.iaload, 1) := by decide +kernel
theorem dX6_findBest_20 : decode cX6_findBest 20 = .ok (.if_icmp .ge 98, 3) := by decide +kernel
theorem dX6_findBest_23 : decode cX6_findBest 23 = .ok (.iconst 0, 1) := by decide +kernel
theorem dX6_findBest_24 : decode cX6_findBest 24 = .ok (.istore 4, 2) := by decide +kernel
theorem dX6_findBest_26 : decode cX6_findBest 26 = .ok (.iload 4, 2) := by decide +kernel
theorem dX6_findBest_28 : decode cX6_findBest 28 = .ok (.aload_n 0, 1) := by decide +kernel
theorem dX6_findBest_29 : decode cX6_findBest 29 = .ok (.getfield 10, 3) := by decide +kernel
theorem dX6_findBest_32 : decode cX6_findBest 32 = .ok (.invokevirtual 282, 3) := by decide +kernel
theorem dX6_findBest_35 : decode cX6_findBest 35 = .ok (.if_icmp .ge 77, 3) := by decide +kernel
theorem dX6_findBest_38 : decode cX6_findBest 38 = .ok (.aload_n 0, 1) := by decide +kernel
theorem dX6_findBest_39 : decode cX6_findBest 39 = .ok (.getfield 10, 3) := by decide +kernel
theorem dX6_findBest_42 : decode cX6_findBest 42 = .ok (.iload 4, 2) := by decide +kernel
theorem dX6_findBest_44 : decode cX6_findBest 44 = .ok (.iconst 1, 1) := by decide +kernel
theorem dX6_findBest_45 : decode cX6_findBest 45 = .ok (.invokevirtual 333, 3) := by decide +kernel
theorem dX6_findBest_48 : decode cX6_findBest 48 = .ok (.aload_n 0, 1) := by decide +kernel
theorem dX6_findBest_49 : decode cX6_findBest 49 = .ok (.getfield 59, 3) := by decide +kernel
theorem dX6_findBest_52 : decode cX6_findBest 52 = .ok (.iconst 2, 1) := by decide +kernel
theorem dX6_findBest_53 : decode cX6_findBest 53 = .ok (.iaload, 1) := by decide +kernel
theorem dX6_findBest_54 : decode cX6_findBest 54 = .ok (.if_icmp .ge 52, 3) := by decide +kernel
theorem dX6_findBest_57 : decode cX6_findBest 57 = .ok (.aload_n 0, 1) := by decide +kernel
theorem dX6_findBest_58 : decode cX6_findBest 58 = .ok (.getfield 28, 3) := by decide +kernel
theorem dX6_findBest_61 : decode cX6_findBest 61 = .ok (.iload_n 3, 1) := by decide +kernel
theorem dX6_findBest_62 : decode cX6_findBest 62 = .ok (.iload 4, 2) := by decide +kernel
theorem dX6_findBest_64 : decode cX6_findBest 64 = .ok (.iload_n 1, 1) := by decide +kernel
theorem dX6_findBest_65 : decode cX6_findBest 65 = .ok (.iload_n 2, 1) := by decide +kernel
theorem dX6_findBest_66 : decode cX6_findBest 66 = .ok (.iconst 1, 1) := by decide +kernel
theorem dX6_findBest_67 : decode cX6_findBest 67 = .ok (.invokevirtual 242, 3) := by decide +kernel
theorem dX6_findBest_70 : decode cX6_findBest 70 = .ok (.istore 5, 2) := by decide +kernel
theorem dX6_findBest_72 : decode cX6_findBest 72 = .ok (.iload 5, 2) := by decide +kernel
theorem dX6_findBest_74 : decode cX6_findBest 74 = .ok (.aload_n 0, 1) := by decide +kernel
theorem dX6_findBest_75 : decode cX6_findBest 75 = .ok (.getfield 59, 3) := by decide +kernel
theorem dX6_findBest_78 : decode cX6_findBest 78 = .ok (.iconst 2, 1) := by decide +kernel
theorem dX6_findBest_79 : decode cX6_findBest 79 = .ok (.iaload, 1) := by decide +kernel
theorem dX6_findBest_80 : decode cX6_findBest 80 = .ok (.if_icmp .ge 26, 3) := by decide +kernel
theorem dX6_findBest_83 : decode cX6_findBest 83 = .ok (.aload_n 0, 1) := by decide +kernel
theorem dX6_findBest_84 : decode cX6_findBest 84 = .ok (.getfield 59, 3) := by decide +kernel
theorem dX6_findBest_87 : decode cX6_findBest 87 = .ok (.iconst 0, 1) := by decide +kernel
theorem dX6_findBest_88 : decode cX6_findBest 88 = .ok (.iload_n 3, 1) := by decide +kernel
theorem dX6_findBest_89 : decode cX6_findBest 89 = .ok (.iastore, 1) := by decide +kernel
theorem dX6_findBest_90 : decode cX6_findBest 90 = .ok (.aload_n 0, 1) := by decide +kernel
theorem dX6_findBest_91 : decode cX6_findBest 91 = .ok (.getfield 59, 3) := by decide +kernel
theorem dX6_findBest_94 : decode cX6_findBest 94 = .ok (.iconst 1, 1) := by decide +kernel
theorem dX6_findBest_95 : decode cX6_findBest 95 = .ok (.iload 4, 2) := by decide +kernel
theorem dX6_findBest_97 : decode cX6_findBest 97 = .ok (.iastore, 1) := by decide +kernel
theorem dX6_findBest_98 : decode cX6_findBest 98 = .ok (.aload_n 0, 1) := by decide +kernel
theorem dX6_findBest_99 : decode cX6_findBest 99 = .ok (.getfield 59, 3) := by decide +kernel
theorem dX6_findBest_102 : decode cX6_findBest 102 = .ok (.iconst 2, 1) := by decide +kernel
theorem dX6_findBest_103 : decode cX6_findBest 103 = .ok (.iload 5, 2) := by decide +kernel
theorem dX6_findBest_105 : decode cX6_findBest 105 = .ok (.iastore, 1) := by decide +kernel
theorem dX6_findBest_106 : decode cX6_findBest 106 = .ok (.iinc 4 1, 3) := by decide +kernel
theorem dX6_findBest_109 : decode cX6_findBest 109 = .ok (.goto (-83), 3) := by decide +kernel
theorem dX6_findBest_112 : decode cX6_findBest 112 = .ok (.iinc 3 1, 3) := by decide +kernel
theorem dX6_findBest_115 : decode cX6_findBest 115 = .ok (.goto (-105), 3) := by decide +kernel
theorem dX6_findBest_118 : decode cX6_findBest 118 = .ok (.return_, 1) := by decide +kernel
theorem dX6_firstWrong_0 : decode cX6_firstWrong 0 = .ok (.aload_n 0, 1) := by decide +kernel
theorem dX6_firstWrong_1 : decode cX6_firstWrong 1 = .ok (.getfield 28, 3) := by decide +kernel
theorem dX6_firstWrong_4 : decode cX6_firstWrong 4 = .ok (.iload_n 1, 1) := by decide +kernel
theorem dX6_firstWrong_5 : decode cX6_firstWrong 5 = .ok (.invokevirtual 326, 3) := by decide +kernel
theorem dX6_firstWrong_8 : decode cX6_firstWrong 8 = .ok (.iconst 0, 1) := by decide +kernel
theorem dX6_firstWrong_9 : decode cX6_firstWrong 9 = .ok (.istore 4, 2) := by decide +kernel
theorem dX6_firstWrong_11 : decode cX6_firstWrong 11 = .ok (.iload 4, 2) := by decide +kernel
theorem dX6_firstWrong_13 : decode cX6_firstWrong 13 = .ok (.iload_n 3, 1) := by decide +kernel
theorem dX6_firstWrong_14 : decode cX6_firstWrong 14 = .ok (.if_icmp .ge 32, 3) := by decide +kernel
theorem dX6_firstWrong_17 : decode cX6_firstWrong 17 = .ok (.aload_n 0, 1) := by decide +kernel
theorem dX6_firstWrong_18 : decode cX6_firstWrong 18 = .ok (.getfield 28, 3) := by decide +kernel
theorem dX6_firstWrong_21 : decode cX6_firstWrong 21 = .ok (.aload_n 0, 1) := by decide +kernel
theorem dX6_firstWrong_22 : decode cX6_firstWrong 22 = .ok (.getfield 35, 3) := by decide +kernel
theorem dX6_firstWrong_25 : decode cX6_firstWrong 25 = .ok (.iload_n 2, 1) := by decide +kernel
theorem dX6_firstWrong_26 : decode cX6_firstWrong 26 = .ok (.iload 4, 2) := by decide +kernel
theorem dX6_firstWrong_28 : decode cX6_firstWrong 28 = .ok (.invokevirtual 105, 3) := by decide +kernel
theorem dX6_firstWrong_31 : decode cX6_firstWrong 31 = .ok (.invokevirtual 329, 3) := by decide +kernel
theorem dX6_firstWrong_34 : decode cX6_firstWrong 34 = .ok (.ifCond .ne 6, 3) := by decide +kernel
theorem dX6_firstWrong_37 : decode cX6_firstWrong 37 = .ok (.iload 4, 2) := by decide +kernel
theorem dX6_firstWrong_39 : decode cX6_firstWrong 39 = .ok (.ireturn, 1) := by decide +kernel
theorem dX6_firstWrong_40 : decode cX6_firstWrong 40 = .ok (.iinc 4 1, 3) := by decide +kernel
theorem dX6_firstWrong_43 : decode cX6_firstWrong 43 = .ok (.goto (-32), 3) := by decide +kernel
theorem dX6_firstWrong_46 : decode cX6_firstWrong 46 = .ok (.iconst (-1), 1) := by decide +kernel
theorem dX6_firstWrong_47 : decode cX6_firstWrong 47 = .ok (.ireturn, 1) := by decide +kernel
theorem dX6_isBridge_0 : decode cX6_isBridge 0 = .ok (.iload_n 1, 1) := by decide +kernel
theorem dX6_isBridge_1 : decode cX6_isBridge 1 = .ok (.iconst 0, 1) := by decide +kernel
theorem dX6_isBridge_2 : decode cX6_isBridge 2 = .ok (.aload_n 0, 1) := by decide +kernel
theorem dX6_isBridge_3 : decode cX6_isBridge 3 = .ok (.getfield 10, 3) := by decide +kernel
theorem dX6_isBridge_6 : decode cX6_isBridge 6 = .ok (.getfield 273, 3) := by decide +kernel
theorem dX6_isBridge_9 : decode cX6_isBridge 9 = .ok (.iconst 1, 1) := by decide +kernel
theorem dX6_isBridge_10 : decode cX6_isBridge 10 = .ok (.iaload, 1) := by decide +kernel
theorem dX6_isBridge_11 : decode cX6_isBridge 11 = .ok (.iconst 1, 1) := by decide +kernel
theorem dX6_isBridge_12 : decode cX6_isBridge 12 = .ok (.isub, 1) := by decide +kernel
theorem dX6_isBridge_13 : decode cX6_isBridge 13 = .ok (.invokestatic 66, 3) := by decide +kernel
theorem dX6_isBridge_16 : decode cX6_isBridge 16 = .ok (.ireturn, 1) := by decide +kernel
theorem dX6_isJourney_0 : decode cX6_isJourney 0 = .ok (.aload_n 0, 1) := by decide +kernel
theorem dX6_isJourney_1 : decode cX6_isJourney 1 = .ok (.iload_n 1, 1) := by decide +kernel
theorem dX6_isJourney_2 : decode cX6_isJourney 2 = .ok (.iload_n 2, 1) := by decide +kernel
theorem dX6_isJourney_3 : decode cX6_isJourney 3 = .ok (.invokevirtual 200, 3) := by decide +kernel
theorem dX6_isJourney_6 : decode cX6_isJourney 6 = .ok (.ifCond .eq 22, 3) := by decide +kernel
theorem dX6_isJourney_9 : decode cX6_isJourney 9 = .ok (.iload_n 3, 1) := by decide +kernel
theorem dX6_isJourney_10 : decode cX6_isJourney 10 = .ok (.invokestatic 126, 3) := by decide +kernel
theorem dX6_isJourney_13 : decode cX6_isJourney 13 = .ok (.ifCond .eq 15, 3) := by decide +kernel
theorem dX6_isJourney_16 : decode cX6_isJourney 16 = .ok (.iload 4, 2) := by decide +kernel
theorem dX6_isJourney_18 : decode cX6_isJourney 18 = .ok (.invokestatic 126, 3) := by decide +kernel
theorem dX6_isJourney_21 : decode cX6_isJourney 21 = .ok (.ifCond .eq 7, 3) := by decide +kernel
theorem dX6_isJourney_24 : decode cX6_isJourney 24 = .ok (.iconst 1, 1) := by decide +kernel
theorem dX6_isJourney_25 : decode cX6_isJourney 25 = .ok (.goto 4, 3) := by decide +kernel
theorem dX6_isJourney_28 : decode cX6_isJourney 28 = .ok (.iconst 0, 1) := by decide +kernel
theorem dX6_isJourney_29 : decode cX6_isJourney 29 = .ok (.ireturn, 1) := by decide +kernel
theorem dX6_isPack_0 : decode cX6_isPack 0 = .ok (.aload_n 0, 1) := by decide +kernel
theorem dX6_isPack_1 : decode cX6_isPack 1 = .ok (.iload_n 1, 1) := by decide +kernel
theorem dX6_isPack_2 : decode cX6_isPack 2 = .ok (.invokevirtual 194, 3) := by decide +kernel
theorem dX6_isPack_5 : decode cX6_isPack 5 = .ok (.ifCond .eq 24, 3) := by decide +kernel
theorem dX6_isPack_8 : decode cX6_isPack 8 = .ok (.iload_n 2, 1) := by decide +kernel
theorem dX6_isPack_9 : decode cX6_isPack 9 = .ok (.iconst 0, 1) := by decide +kernel
theorem dX6_isPack_10 : decode cX6_isPack 10 = .ok (.aload_n 0, 1) := by decide +kernel
theorem dX6_isPack_11 : decode cX6_isPack 11 = .ok (.getfield 10, 3) := by decide +kernel
theorem dX6_isPack_14 : decode cX6_isPack 14 = .ok (.invokevirtual 282, 3) := by decide +kernel
theorem dX6_isPack_17 : decode cX6_isPack 17 = .ok (.iconst 1, 1) := by decide +kernel
theorem dX6_isPack_18 : decode cX6_isPack 18 = .ok (.isub, 1) := by decide +kernel
theorem dX6_isPack_19 : decode cX6_isPack 19 = .ok (.invokestatic 66, 3) := by decide +kernel
theorem dX6_isPack_22 : decode cX6_isPack 22 = .ok (.ifCond .eq 7, 3) := by decide +kernel
theorem dX6_isPack_25 : decode cX6_isPack 25 = .ok (.iconst 1, 1) := by decide +kernel
theorem dX6_isPack_26 : decode cX6_isPack 26 = .ok (.goto 4, 3) := by decide +kernel
theorem dX6_isPack_29 : decode cX6_isPack 29 = .ok (.iconst 0, 1) := by decide +kernel
theorem dX6_isPack_30 : decode cX6_isPack 30 = .ok (.ireturn, 1) := by decide +kernel
theorem dX6_isRoad_0 : decode cX6_isRoad 0 = .ok (.iload_n 1, 1) := by decide +kernel
theorem dX6_isRoad_1 : decode cX6_isRoad 1 = .ok (.iconst 0, 1) := by decide +kernel
theorem dX6_isRoad_2 : decode cX6_isRoad 2 = .ok (.aload_n 0, 1) := by decide +kernel
theorem dX6_isRoad_3 : decode cX6_isRoad 3 = .ok (.getfield 10, 3) := by decide +kernel
theorem dX6_isRoad_6 : decode cX6_isRoad 6 = .ok (.getfield 273, 3) := by decide +kernel
theorem dX6_isRoad_9 : decode cX6_isRoad 9 = .ok (.iconst 0, 1) := by decide +kernel
theorem dX6_isRoad_10 : decode cX6_isRoad 10 = .ok (.iaload, 1) := by decide +kernel
theorem dX6_isRoad_11 : decode cX6_isRoad 11 = .ok (.iconst 1, 1) := by decide +kernel
theorem dX6_isRoad_12 : decode cX6_isRoad 12 = .ok (.isub, 1) := by decide +kernel
theorem dX6_isRoad_13 : decode cX6_isRoad 13 = .ok (.invokestatic 66, 3) := by decide +kernel
theorem dX6_isRoad_16 : decode cX6_isRoad 16 = .ok (.ireturn, 1) := by decide +kernel
theorem dX6_isWaggon_0 : decode cX6_isWaggon 0 = .ok (.iload_n 1, 1) := by decide +kernel
theorem dX6_isWaggon_1 : decode cX6_isWaggon 1 = .ok (.iconst 0, 1) := by decide +kernel
theorem dX6_isWaggon_2 : decode cX6_isWaggon 2 = .ok (.aload_n 0, 1) := by decide +kernel
theorem dX6_isWaggon_3 : decode cX6_isWaggon 3 = .ok (.getfield 10, 3) := by decide +kernel
theorem dX6_isWaggon_6 : decode cX6_isWaggon 6 = .ok (.getfield 273, 3) := by decide +kernel
theorem dX6_isWaggon_9 : decode cX6_isWaggon 9 = .ok (.iconst 2, 1) := by decide +kernel
theorem dX6_isWaggon_10 : decode cX6_isWaggon 10 = .ok (.iaload, 1) := by decide +kernel
theorem dX6_isWaggon_11 : decode cX6_isWaggon 11 = .ok (.iconst 1, 1) := by decide +kernel
theorem dX6_isWaggon_12 : decode cX6_isWaggon 12 = .ok (.isub, 1) := by decide +kernel
theorem dX6_isWaggon_13 : decode cX6_isWaggon 13 = .ok (.invokestatic 66, 3) := by decide +kernel
theorem dX6_isWaggon_16 : decode cX6_isWaggon 16 = .ok (.ireturn, 1) := by decide +kernel
theorem dX6_orStuck_0 : decode cX6_orStuck 0 = .ok (.iload_n 1, 1) := by decide +kernel
theorem dX6_orStuck_1 : decode cX6_orStuck 1 = .ok (.ldc 255, 2) := by decide +kernel
theorem dX6_orStuck_3 : decode cX6_orStuck 3 = .ok (.if_icmp .ne 12, 3) := by decide +kernel
theorem dX6_orStuck_6 : decode cX6_orStuck 6 = .ok (.aload_n 0, 1) := by decide +kernel
theorem dX6_orStuck_7 : decode cX6_orStuck 7 = .ok (.bipush (-5), 2) := by decide +kernel
theorem dX6_orStuck_9 : decode cX6_orStuck 9 = .ok (.invokevirtual 70, 3) := by decide +kernel
theorem dX6_orStuck_12 : decode cX6_orStuck 12 = .ok (.goto 4, 3) := by decide +kernel
theorem dX6_orStuck_15 : decode cX6_orStuck 15 = .ok (.iload_n 1, 1) := by decide +kernel
theorem dX6_orStuck_16 : decode cX6_orStuck 16 = .ok (.ireturn, 1) := by decide +kernel
theorem dX6_refuse_0 : decode cX6_refuse 0 = .ok (.bipush (-2), 2) := by decide +kernel
theorem dX6_refuse_2 : decode cX6_refuse 2 = .ok (.iload_n 1, 1) := by decide +kernel
theorem dX6_refuse_3 : decode cX6_refuse 3 = .ok (.isub, 1) := by decide +kernel
theorem dX6_refuse_4 : decode cX6_refuse 4 = .ok (.istore_n 2, 1) := by decide +kernel
theorem dX6_refuse_5 : decode cX6_refuse 5 = .ok (.iload_n 2, 1) := by decide +kernel
theorem dX6_refuse_6 : decode cX6_refuse 6 = .ok (.iconst 0, 1) := by decide +kernel
theorem dX6_refuse_7 : decode cX6_refuse 7 = .ok (.iconst 4, 1) := by decide +kernel
theorem dX6_refuse_8 : decode cX6_refuse 8 = .ok (.invokestatic 66, 3) := by decide +kernel
theorem dX6_refuse_11 : decode cX6_refuse 11 = .ok (.ifCond .eq 13, 3) := by decide +kernel
theorem dX6_refuse_14 : decode cX6_refuse 14 = .ok (.aload_n 0, 1) := by decide +kernel
theorem dX6_refuse_15 : decode cX6_refuse 15 = .ok (.getfield 55, 3) := by decide +kernel
theorem dX6_refuse_18 : decode cX6_refuse 18 = .ok (.iload_n 2, 1) := by decide +kernel
theorem dX6_refuse_19 : decode cX6_refuse 19 = .ok (.dup2, 1) := by decide +kernel
theorem dX6_refuse_20 : decode cX6_refuse 20 = .ok (.iaload, 1) := by decide +kernel
theorem dX6_refuse_21 : decode cX6_refuse 21 = .ok (.iconst 1, 1) := by decide +kernel
theorem dX6_refuse_22 : decode cX6_refuse 22 = .ok (.iadd, 1) := by decide +kernel
theorem dX6_refuse_23 : decode cX6_refuse 23 = .ok (.iastore, 1) := by decide +kernel
theorem dX6_refuse_24 : decode cX6_refuse 24 = .ok (.iload_n 1, 1) := by decide +kernel
theorem dX6_refuse_25 : decode cX6_refuse 25 = .ok (.ireturn, 1) := by decide +kernel
theorem dX6_spoken_0 : decode cX6_spoken 0 = .ok (.iload_n 2, 1) := by decide +kernel
theorem dX6_spoken_1 : decode cX6_spoken 1 = .ok (.tableswitch 75 0 4 #[35, 45, 45, 54, 64], 35) := by decide +kernel
theorem dX6_spoken_36 : decode cX6_spoken 36 = .ok (.aload_n 0, 1) := by decide +kernel
theorem dX6_spoken_37 : decode cX6_spoken 37 = .ok (.getfield 10, 3) := by decide +kernel
theorem dX6_spoken_40 : decode cX6_spoken 40 = .ok (.iload_n 1, 1) := by decide +kernel
theorem dX6_spoken_41 : decode cX6_spoken 41 = .ok (.iconst 0, 1) := by decide +kernel
theorem dX6_spoken_42 : decode cX6_spoken 42 = .ok (.invokevirtual 159, 3) := by decide +kernel
theorem dX6_spoken_45 : decode cX6_spoken 45 = .ok (.ireturn, 1) := by decide +kernel
theorem dX6_spoken_46 : decode cX6_spoken 46 = .ok (.aload_n 0, 1) := by decide +kernel
theorem dX6_spoken_47 : decode cX6_spoken 47 = .ok (.getfield 10, 3) := by decide +kernel
theorem dX6_spoken_50 : decode cX6_spoken 50 = .ok (.iload_n 1, 1) := by decide +kernel
theorem dX6_spoken_51 : decode cX6_spoken 51 = .ok (.invokevirtual 191, 3) := by decide +kernel
theorem dX6_spoken_54 : decode cX6_spoken 54 = .ok (.ireturn, 1) := by decide +kernel
theorem dX6_spoken_55 : decode cX6_spoken 55 = .ok (.aload_n 0, 1) := by decide +kernel
theorem dX6_spoken_56 : decode cX6_spoken 56 = .ok (.getfield 10, 3) := by decide +kernel
theorem dX6_spoken_59 : decode cX6_spoken 59 = .ok (.iload_n 1, 1) := by decide +kernel
theorem dX6_spoken_60 : decode cX6_spoken 60 = .ok (.iconst 2, 1) := by decide +kernel
theorem dX6_spoken_61 : decode cX6_spoken 61 = .ok (.invokevirtual 159, 3) := by decide +kernel
theorem dX6_spoken_64 : decode cX6_spoken 64 = .ok (.ireturn, 1) := by decide +kernel
theorem dX6_spoken_65 : decode cX6_spoken 65 = .ok (.aload_n 0, 1) := by decide +kernel
theorem dX6_spoken_66 : decode cX6_spoken 66 = .ok (.getfield 10, 3) := by decide +kernel
theorem dX6_spoken_69 : decode cX6_spoken 69 = .ok (.iload_n 1, 1) := by decide +kernel
theorem dX6_spoken_70 : decode cX6_spoken 70 = .ok (.bipush 9, 2) := by decide +kernel
theorem dX6_spoken_72 : decode cX6_spoken 72 = .ok (.invokevirtual 159, 3) := by decide +kernel
theorem dX6_spoken_75 : decode cX6_spoken 75 = .ok (.ireturn, 1) := by decide +kernel
theorem dX6_spoken_76 : decode cX6_spoken 76 = .ok (.aload_n 0, 1) := by decide +kernel
theorem dX6_spoken_77 : decode cX6_spoken 77 = .ok (.getfield 10, 3) := by decide +kernel
theorem dX6_spoken_80 : decode cX6_spoken 80 = .ok (.iload_n 1, 1) := by decide +kernel
theorem dX6_spoken_81 : decode cX6_spoken 81 = .ok (.aload_n 0, 1) := by decide +kernel
theorem dX6_spoken_82 : decode cX6_spoken 82 = .ok (.getfield 10, 3) := by decide +kernel
theorem dX6_spoken_85 : decode cX6_spoken 85 = .ok (.iload_n 1, 1) := by decide +kernel
theorem dX6_spoken_86 : decode cX6_spoken 86 = .ok (.invokevirtual 184, 3) := by decide +kernel
theorem dX6_spoken_89 : decode cX6_spoken 89 = .ok (.invokevirtual 187, 3) := by decide +kernel
theorem dX6_spoken_92 : decode cX6_spoken 92 = .ok (.ireturn, 1) := by decide +kernel
theorem dX6_whyNoRow_0 : decode cX6_whyNoRow 0 = .ok (.iload_n 1, 1) := by decide +kernel
theorem dX6_whyNoRow_1 : decode cX6_whyNoRow 1 = .ok (.invokestatic 62, 3) := by decide +kernel
theorem dX6_whyNoRow_4 : decode cX6_whyNoRow 4 = .ok (.ifCond .ne 6, 3) := by decide +kernel
theorem dX6_whyNoRow_7 : decode cX6_whyNoRow 7 = .ok (.bipush (-2), 2) := by decide +kernel
theorem dX6_whyNoRow_9 : decode cX6_whyNoRow 9 = .ok (.ireturn, 1) := by decide +kernel
theorem dX6_whyNoRow_10 : decode cX6_whyNoRow 10 = .ok (.aload_n 0, 1) := by decide +kernel
theorem dX6_whyNoRow_11 : decode cX6_whyNoRow 11 = .ok (.getfield 35, 3) := by decide +kernel
theorem dX6_whyNoRow_14 : decode cX6_whyNoRow 14 = .ok (.iload_n 1, 1) := by decide +kernel
theorem dX6_whyNoRow_15 : decode cX6_whyNoRow 15 = .ok (.invokevirtual 88, 3) := by decide +kernel
theorem dX6_whyNoRow_18 : decode cX6_whyNoRow 18 = .ok (.ifCond .eq 6, 3) := by decide +kernel
theorem dX6_whyNoRow_21 : decode cX6_whyNoRow 21 = .ok (.bipush (-3), 2) := by decide +kernel
theorem dX6_whyNoRow_23 : decode cX6_whyNoRow 23 = .ok (.ireturn, 1) := by decide +kernel
theorem dX6_whyNoRow_24 : decode cX6_whyNoRow 24 = .ok (.aload_n 0, 1) := by decide +kernel
theorem dX6_whyNoRow_25 : decode cX6_whyNoRow 25 = .ok (.getfield 35, 3) := by decide +kernel
theorem dX6_whyNoRow_28 : decode cX6_whyNoRow 28 = .ok (.iload_n 1, 1) := by decide +kernel
theorem dX6_whyNoRow_29 : decode cX6_whyNoRow 29 = .ok (.invokevirtual 95, 3) := by decide +kernel
theorem dX6_whyNoRow_32 : decode cX6_whyNoRow 32 = .ok (.ifCond .eq 8, 3) := by decide +kernel
theorem dX6_whyNoRow_35 : decode cX6_whyNoRow 35 = .ok (.bipush (-4), 2) := by decide +kernel
theorem dX6_whyNoRow_37 : decode cX6_whyNoRow 37 = .ok (.goto 4, 3) := by decide +kernel
theorem dX6_whyNoRow_40 : decode cX6_whyNoRow 40 = .ok (.iconst 0, 1) := by decide +kernel
theorem dX6_whyNoRow_41 : decode cX6_whyNoRow 41 = .ok (.ireturn, 1) := by decide +kernel
theorem dX6_whyNotTold_0 : decode cX6_whyNotTold 0 = .ok (.aload_n 0, 1) := by decide +kernel
theorem dX6_whyNotTold_1 : decode cX6_whyNotTold 1 = .ok (.iload_n 1, 1) := by decide +kernel
theorem dX6_whyNotTold_2 : decode cX6_whyNotTold 2 = .ok (.iload_n 2, 1) := by decide +kernel
theorem dX6_whyNotTold_3 : decode cX6_whyNotTold 3 = .ok (.invokevirtual 200, 3) := by decide +kernel
theorem dX6_whyNotTold_6 : decode cX6_whyNotTold 6 = .ok (.ifCond .eq 29, 3) := by decide +kernel
theorem dX6_whyNotTold_9 : decode cX6_whyNotTold 9 = .ok (.iload_n 3, 1) := by decide +kernel
theorem dX6_whyNotTold_10 : decode cX6_whyNotTold 10 = .ok (.invokestatic 126, 3) := by decide +kernel
theorem dX6_whyNotTold_13 : decode cX6_whyNotTold 13 = .ok (.ifCond .eq 22, 3) := by decide +kernel
theorem dX6_whyNotTold_16 : decode cX6_whyNotTold 16 = .ok (.iload 4, 2) := by decide +kernel
theorem dX6_whyNotTold_18 : decode cX6_whyNotTold 18 = .ok (.invokestatic 62, 3) := by decide +kernel
theorem dX6_whyNotTold_21 : decode cX6_whyNotTold 21 = .ok (.ifCond .eq 14, 3) := by decide +kernel
theorem dX6_whyNotTold_24 : decode cX6_whyNotTold 24 = .ok (.iload 5, 2) := by decide +kernel
theorem dX6_whyNotTold_26 : decode cX6_whyNotTold 26 = .ok (.iconst 0, 1) := by decide +kernel
theorem dX6_whyNotTold_27 : decode cX6_whyNotTold 27 = .ok (.bipush 20, 2) := by decide +kernel
theorem dX6_whyNotTold_29 : decode cX6_whyNotTold 29 = .ok (.invokestatic 66, 3) := by decide +kernel
theorem dX6_whyNotTold_32 : decode cX6_whyNotTold 32 = .ok (.ifCond .ne 6, 3) := by decide +kernel
theorem dX6_whyNotTold_35 : decode cX6_whyNotTold 35 = .ok (.bipush (-2), 2) := by decide +kernel
theorem dX6_whyNotTold_37 : decode cX6_whyNotTold 37 = .ok (.ireturn, 1) := by decide +kernel
theorem dX6_whyNotTold_38 : decode cX6_whyNotTold 38 = .ok (.aload_n 0, 1) := by decide +kernel
theorem dX6_whyNotTold_39 : decode cX6_whyNotTold 39 = .ok (.iload 4, 2) := by decide +kernel
theorem dX6_whyNotTold_41 : decode cX6_whyNotTold 41 = .ok (.invokevirtual 78, 3) := by decide +kernel
theorem dX6_whyNotTold_44 : decode cX6_whyNotTold 44 = .ok (.istore 6, 2) := by decide +kernel
theorem dX6_whyNotTold_46 : decode cX6_whyNotTold 46 = .ok (.iload 6, 2) := by decide +kernel
theorem dX6_whyNotTold_48 : decode cX6_whyNotTold 48 = .ok (.ifCond .eq 6, 3) := by decide +kernel
theorem dX6_whyNotTold_51 : decode cX6_whyNotTold 51 = .ok (.iload 6, 2) := by decide +kernel
theorem dX6_whyNotTold_53 : decode cX6_whyNotTold 53 = .ok (.ireturn, 1) := by decide +kernel
theorem dX6_whyNotTold_54 : decode cX6_whyNotTold 54 = .ok (.iload 5, 2) := by decide +kernel
theorem dX6_whyNotTold_56 : decode cX6_whyNotTold 56 = .ok (.aload_n 0, 1) := by decide +kernel
theorem dX6_whyNotTold_57 : decode cX6_whyNotTold 57 = .ok (.getfield 35, 3) := by decide +kernel
theorem dX6_whyNotTold_60 : decode cX6_whyNotTold 60 = .ok (.getfield 81, 3) := by decide +kernel
theorem dX6_whyNotTold_63 : decode cX6_whyNotTold 63 = .ok (.iload 4, 2) := by decide +kernel
theorem dX6_whyNotTold_65 : decode cX6_whyNotTold 65 = .ok (.iaload, 1) := by decide +kernel
theorem dX6_whyNotTold_66 : decode cX6_whyNotTold 66 = .ok (.if_icmp .le 8, 3) := by decide +kernel
theorem dX6_whyNotTold_69 : decode cX6_whyNotTold 69 = .ok (.bipush (-2), 2) := by decide +kernel
theorem dX6_whyNotTold_71 : decode cX6_whyNotTold 71 = .ok (.goto 4, 3) := by decide +kernel
theorem dX6_whyNotTold_74 : decode cX6_whyNotTold 74 = .ok (.iconst 0, 1) := by decide +kernel
theorem dX6_whyNotTold_75 : decode cX6_whyNotTold 75 = .ok (.ireturn, 1) := by decide +kernel

