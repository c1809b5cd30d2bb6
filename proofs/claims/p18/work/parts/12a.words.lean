theorem q_18 : Cond.selects RX5 yX5_priceByCoin yX5_priceByCoin ∈ oh_t := oh_of (i := 18) (by decide +kernel) rfl
theorem q_19 : Cond.selects RX5 yX5_spread yX5_spread ∈ oh_t := oh_of (i := 19) (by decide +kernel) rfl
theorem q_20 : Cond.selects RX5 yX5_shorten yX5_shorten ∈ oh_t := oh_of (i := 20) (by decide +kernel) rfl
theorem q_25 : Cond.selects RX5 yX5_otherEnd yX5_otherEnd ∈ oh_t := oh_of (i := 25) (by decide +kernel) rfl
theorem q_68 : Cond.initialized RX5 ∈ oh_t := oh_of (i := 68) (by decide +kernel) rfl
theorem q_99 : Cond.fieldLink RX5 45 "OneHeavyLoad$Land" "counts" "[I" ∈ oh_t := oh_of (i := 99) (by decide +kernel) rfl
theorem q_109 : Cond.fieldLink RX5 68 "OneHeavyLoad$Land" "settings" "[I" ∈ oh_t := oh_of (i := 109) (by decide +kernel) rfl
theorem q_148 : Cond.fieldLink RX5 54 "OneHeavyLoad$Pack" "fullLength" "I" ∈ oh_t := oh_of (i := 148) (by decide +kernel) rfl
theorem q_150 : Cond.fieldLink RX5 65 "OneHeavyLoad$Pack" "axleLoad" "I" ∈ oh_t := oh_of (i := 150) (by decide +kernel) rfl
theorem q_153 : Cond.fieldLink RX5 90 "OneHeavyLoad$Pack" "sentCoin" "I" ∈ oh_t := oh_of (i := 153) (by decide +kernel) rfl
theorem q_167 : Cond.fieldLink RX5 9 "OneHeavyLoad$Ways" "land" "LOneHeavyLoad$Land;" ∈ oh_t := oh_of (i := 167) (by decide +kernel) rfl
theorem q_168 : Cond.fieldLink RX5 18 "OneHeavyLoad$Ways" "pack" "LOneHeavyLoad$Pack;" ∈ oh_t := oh_of (i := 168) (by decide +kernel) rfl
theorem q_170 : Cond.fieldLink RX5 26 "OneHeavyLoad$Ways" "props" "[I" ∈ oh_t := oh_of (i := 170) (by decide +kernel) rfl
theorem q_172 : Cond.fieldLink RX5 29 "OneHeavyLoad$Ways" "propCoin" "[I" ∈ oh_t := oh_of (i := 172) (by decide +kernel) rfl
theorem q_173 : Cond.fieldLink RX5 32 "OneHeavyLoad$Ways" "price" "[I" ∈ oh_t := oh_of (i := 173) (by decide +kernel) rfl
theorem q_174 : Cond.fieldLink RX5 35 "OneHeavyLoad$Ways" "far" "[I" ∈ oh_t := oh_of (i := 174) (by decide +kernel) rfl
theorem q_175 : Cond.fieldLink RX5 38 "OneHeavyLoad$Ways" "walked" "[I" ∈ oh_t := oh_of (i := 175) (by decide +kernel) rfl
theorem q_480 : Cond.instanceMethod yX0_ofRoad ∈ oh_t := oh_of (i := 480) (by decide +kernel) rfl
theorem q_481 : Cond.selects RX0 yX0_ofRoad yX0_ofRoad ∈ oh_t := oh_of (i := 481) (by decide +kernel) rfl
theorem q_482 : Cond.code yX0_ofRoad cX0_ofRoad 3 (some .int) ∈ oh_t := oh_of (i := 482) (by decide +kernel) rfl
theorem q_704 : Cond.instanceMethod yX1_take ∈ oh_t := oh_of (i := 704) (by decide +kernel) rfl
theorem q_705 : Cond.selects RX1 yX1_take yX1_take ∈ oh_t := oh_of (i := 705) (by decide +kernel) rfl
theorem q_706 : Cond.code yX1_take cX1_take 5 none ∈ oh_t := oh_of (i := 706) (by decide +kernel) rfl
theorem q_738 : Cond.instanceMethod yX1_needsOf ∈ oh_t := oh_of (i := 738) (by decide +kernel) rfl
theorem q_739 : Cond.selects RX1 yX1_needsOf yX1_needsOf ∈ oh_t := oh_of (i := 739) (by decide +kernel) rfl
theorem q_740 : Cond.code yX1_needsOf cX1_needsOf 5 (some .int) ∈ oh_t := oh_of (i := 740) (by decide +kernel) rfl
theorem q_751 : Cond.instanceMethod yX5_survey ∈ oh_t := oh_of (i := 751) (by decide +kernel) rfl
theorem q_752 : Cond.selects RX5 yX5_survey yX5_survey ∈ oh_t := oh_of (i := 752) (by decide +kernel) rfl
theorem q_753 : Cond.code yX5_survey cX5_survey 6 none ∈ oh_t := oh_of (i := 753) (by decide +kernel) rfl
theorem q_754 : Cond.methodLink RX5 41 yX1_take ∈ oh_t := oh_of (i := 754) (by decide +kernel) rfl
theorem q_755 : Cond.methodLink RX5 50 yX0_ofRoad ∈ oh_t := oh_of (i := 755) (by decide +kernel) rfl
theorem q_756 : Cond.methodLink RX5 58 yX0_ofBridge ∈ oh_t := oh_of (i := 756) (by decide +kernel) rfl
theorem q_757 : Cond.methodLink RX5 61 yX1_needsOf ∈ oh_t := oh_of (i := 757) (by decide +kernel) rfl
theorem q_759 : Cond.instanceMethod yX5_engines ∈ oh_t := oh_of (i := 759) (by decide +kernel) rfl
theorem q_760 : Cond.selects RX5 yX5_engines yX5_engines ∈ oh_t := oh_of (i := 760) (by decide +kernel) rfl
theorem q_761 : Cond.code yX5_engines cX5_engines 2 (some .int) ∈ oh_t := oh_of (i := 761) (by decide +kernel) rfl
theorem q_763 : Cond.instanceMethod yX5_coinOf ∈ oh_t := oh_of (i := 763) (by decide +kernel) rfl
theorem q_764 : Cond.selects RX5 yX5_coinOf yX5_coinOf ∈ oh_t := oh_of (i := 764) (by decide +kernel) rfl
theorem q_765 : Cond.code yX5_coinOf cX5_coinOf 3 (some .int) ∈ oh_t := oh_of (i := 765) (by decide +kernel) rfl
theorem q_766 : Cond.methodLink RX5 71 yX5_engines ∈ oh_t := oh_of (i := 766) (by decide +kernel) rfl
theorem q_768 : Cond.instanceMethod yX5_daysOf ∈ oh_t := oh_of (i := 768) (by decide +kernel) rfl
theorem q_769 : Cond.selects RX5 yX5_daysOf yX5_daysOf ∈ oh_t := oh_of (i := 769) (by decide +kernel) rfl
theorem q_770 : Cond.code yX5_daysOf cX5_daysOf 2 (some .int) ∈ oh_t := oh_of (i := 770) (by decide +kernel) rfl
theorem q_784 : Cond.methodLink RX5 78 yX5_survey ∈ oh_t := oh_of (i := 784) (by decide +kernel) rfl
theorem q_785 : Cond.methodLink RX5 82 yX5_priceByCoin ∈ oh_t := oh_of (i := 785) (by decide +kernel) rfl
theorem q_787 : Cond.instanceMethod yX5_priceByCoin ∈ oh_t := oh_of (i := 787) (by decide +kernel) rfl
theorem q_788 : Cond.code yX5_priceByCoin cX5_priceByCoin 3 none ∈ oh_t := oh_of (i := 788) (by decide +kernel) rfl
theorem q_789 : Cond.methodLink RX5 96 yX5_coinOf ∈ oh_t := oh_of (i := 789) (by decide +kernel) rfl
theorem q_790 : Cond.methodLink RX5 86 yX5_spread ∈ oh_t := oh_of (i := 790) (by decide +kernel) rfl
theorem q_792 : Cond.instanceMethod yX5_spread ∈ oh_t := oh_of (i := 792) (by decide +kernel) rfl
theorem q_793 : Cond.code yX5_spread cX5_spread 5 none ∈ oh_t := oh_of (i := 793) (by decide +kernel) rfl
theorem q_794 : Cond.constant RX5 89 1000000000 ∈ oh_t := oh_of (i := 794) (by decide +kernel) rfl
theorem q_795 : Cond.methodLink RX5 99 yX5_shorten ∈ oh_t := oh_of (i := 795) (by decide +kernel) rfl
theorem q_797 : Cond.instanceMethod yX5_shorten ∈ oh_t := oh_of (i := 797) (by decide +kernel) rfl
theorem q_798 : Cond.code yX5_shorten cX5_shorten 4 (some .boolean) ∈ oh_t := oh_of (i := 798) (by decide +kernel) rfl
theorem q_812 : Cond.methodLink RX5 93 yX5_daysOf ∈ oh_t := oh_of (i := 812) (by decide +kernel) rfl
theorem q_846 : Cond.methodLink RX5 103 yX5_otherEnd ∈ oh_t := oh_of (i := 846) (by decide +kernel) rfl
theorem q_848 : Cond.instanceMethod yX5_otherEnd ∈ oh_t := oh_of (i := 848) (by decide +kernel) rfl
theorem q_849 : Cond.code yX5_otherEnd cX5_otherEnd 3 (some .int) ∈ oh_t := oh_of (i := 849) (by decide +kernel) rfl
theorem q_928 : Cond.methodLink RX5 106 yX0_putBridgeColumn ∈ oh_t := oh_of (i := 928) (by decide +kernel) rfl
theorem pdVX0_ofRoad : yX0_ofRoad.cls = RX0 ∧ yX0_ofRoad.cls ≠ "java/lang/invoke/MethodHandle" ∧ yX0_ofRoad.cls ≠ "java/lang/invoke/VarHandle" ∧ (parseMethodDescriptor yX0_ofRoad.desc).map (fun d => d.parameters.length) = some 2 := by decide +kernel
theorem pdVX1_needsOf : yX1_needsOf.cls = RX1 ∧ yX1_needsOf.cls ≠ "java/lang/invoke/MethodHandle" ∧ yX1_needsOf.cls ≠ "java/lang/invoke/VarHandle" ∧ (parseMethodDescriptor yX1_needsOf.desc).map (fun d => d.parameters.length) = some 2 := by decide +kernel
theorem pdVX1_take : yX1_take.cls = RX1 ∧ yX1_take.cls ≠ "java/lang/invoke/MethodHandle" ∧ yX1_take.cls ≠ "java/lang/invoke/VarHandle" ∧ (parseMethodDescriptor yX1_take.desc).map (fun d => d.parameters.length) = some 3 := by decide +kernel
theorem pdVX5_coinOf : yX5_coinOf.cls = RX5 ∧ yX5_coinOf.cls ≠ "java/lang/invoke/MethodHandle" ∧ yX5_coinOf.cls ≠ "java/lang/invoke/VarHandle" ∧ (parseMethodDescriptor yX5_coinOf.desc).map (fun d => d.parameters.length) = some 2 := by decide +kernel
theorem pdVX5_daysOf : yX5_daysOf.cls = RX5 ∧ yX5_daysOf.cls ≠ "java/lang/invoke/MethodHandle" ∧ yX5_daysOf.cls ≠ "java/lang/invoke/VarHandle" ∧ (parseMethodDescriptor yX5_daysOf.desc).map (fun d => d.parameters.length) = some 1 := by decide +kernel
theorem pdVX5_engines : yX5_engines.cls = RX5 ∧ yX5_engines.cls ≠ "java/lang/invoke/MethodHandle" ∧ yX5_engines.cls ≠ "java/lang/invoke/VarHandle" ∧ (parseMethodDescriptor yX5_engines.desc).map (fun d => d.parameters.length) = some 1 := by decide +kernel
theorem pdVX5_otherEnd : yX5_otherEnd.cls = RX5 ∧ yX5_otherEnd.cls ≠ "java/lang/invoke/MethodHandle" ∧ yX5_otherEnd.cls ≠ "java/lang/invoke/VarHandle" ∧ (parseMethodDescriptor yX5_otherEnd.desc).map (fun d => d.parameters.length) = some 2 := by decide +kernel
theorem pdVX5_priceByCoin : yX5_priceByCoin.cls = RX5 ∧ yX5_priceByCoin.cls ≠ "java/lang/invoke/MethodHandle" ∧ yX5_priceByCoin.cls ≠ "java/lang/invoke/VarHandle" ∧ (parseMethodDescriptor yX5_priceByCoin.desc).map (fun d => d.parameters.length) = some 1 := by decide +kernel
theorem pdVX5_shorten : yX5_shorten.cls = RX5 ∧ yX5_shorten.cls ≠ "java/lang/invoke/MethodHandle" ∧ yX5_shorten.cls ≠ "java/lang/invoke/VarHandle" ∧ (parseMethodDescriptor yX5_shorten.desc).map (fun d => d.parameters.length) = some 1 := by decide +kernel
theorem pdVX5_spread : yX5_spread.cls = RX5 ∧ yX5_spread.cls ≠ "java/lang/invoke/MethodHandle" ∧ yX5_spread.cls ≠ "java/lang/invoke/VarHandle" ∧ (parseMethodDescriptor yX5_spread.desc).map (fun d => d.parameters.length) = some 1 := by decide +kernel
theorem pdVX5_survey : yX5_survey.cls = RX5 ∧ yX5_survey.cls ≠ "java/lang/invoke/MethodHandle" ∧ yX5_survey.cls ≠ "java/lang/invoke/VarHandle" ∧ (parseMethodDescriptor yX5_survey.desc).map (fun d => d.parameters.length) = some 2 := by decide +kernel
theorem dX5_coinOf_0 : decode cX5_coinOf 0 = .ok (.iload_n 2, 1) := by decide +kernel
theorem dX5_coinOf_1 : decode cX5_coinOf 1 = .ok (.aload_n 0, 1) := by decide +kernel
theorem dX5_coinOf_2 : decode cX5_coinOf 2 = .ok (.getfield 9, 3) := by decide +kernel
theorem dX5_coinOf_5 : decode cX5_coinOf 5 = .ok (.getfield 68, 3) := by decide +kernel
theorem dX5_coinOf_8 : decode cX5_coinOf 8 = .ok (.iconst 1, 1) := by decide +kernel
theorem dX5_coinOf_9 : decode cX5_coinOf 9 = .ok (.iaload, 1) := by decide +kernel
theorem dX5_coinOf_10 : decode cX5_coinOf 10 = .ok (.imul, 1) := by decide +kernel
theorem dX5_coinOf_11 : decode cX5_coinOf 11 = .ok (.aload_n 0, 1) := by decide +kernel
theorem dX5_coinOf_12 : decode cX5_coinOf 12 = .ok (.getfield 9, 3) := by decide +kernel
theorem dX5_coinOf_15 : decode cX5_coinOf 15 = .ok (.iload_n 1, 1) := by decide +kernel
theorem dX5_coinOf_16 : decode cX5_coinOf 16 = .ok (.iconst 2, 1) := by decide +kernel
theorem dX5_coinOf_17 : decode cX5_coinOf 17 = .ok (.invokevirtual 50, 3) := by decide +kernel
theorem dX5_coinOf_20 : decode cX5_coinOf 20 = .ok (.imul, 1) := by decide +kernel
theorem dX5_coinOf_21 : decode cX5_coinOf 21 = .ok (.aload_n 0, 1) := by decide +kernel
theorem dX5_coinOf_22 : decode cX5_coinOf 22 = .ok (.iload_n 1, 1) := by decide +kernel
theorem dX5_coinOf_23 : decode cX5_coinOf 23 = .ok (.invokevirtual 71, 3) := by decide +kernel
theorem dX5_coinOf_26 : decode cX5_coinOf 26 = .ok (.imul, 1) := by decide +kernel
theorem dX5_coinOf_27 : decode cX5_coinOf 27 = .ok (.aload_n 0, 1) := by decide +kernel
theorem dX5_coinOf_28 : decode cX5_coinOf 28 = .ok (.getfield 29, 3) := by decide +kernel
theorem dX5_coinOf_31 : decode cX5_coinOf 31 = .ok (.iload_n 1, 1) := by decide +kernel
theorem dX5_coinOf_32 : decode cX5_coinOf 32 = .ok (.iaload, 1) := by decide +kernel
theorem dX5_coinOf_33 : decode cX5_coinOf 33 = .ok (.iadd, 1) := by decide +kernel
theorem dX5_coinOf_34 : decode cX5_coinOf 34 = .ok (.ireturn, 1) := by decide +kernel
theorem dX5_daysOf_0 : decode cX5_daysOf 0 = .ok (.aload_n 0, 1) := by decide +kernel
theorem dX5_daysOf_1 : decode cX5_daysOf 1 = .ok (.getfield 9, 3) := by decide +kernel
theorem dX5_daysOf_4 : decode cX5_daysOf 4 = .ok (.iload_n 1, 1) := by decide +kernel
theorem dX5_daysOf_5 : decode cX5_daysOf 5 = .ok (.iconst 2, 1) := by decide +kernel
theorem dX5_daysOf_6 : decode cX5_daysOf 6 = .ok (.invokevirtual 50, 3) := by decide +kernel
theorem dX5_daysOf_9 : decode cX5_daysOf 9 = .ok (.bipush 10, 2) := by decide +kernel
theorem dX5_daysOf_11 : decode cX5_daysOf 11 = .ok (.invokestatic 75, 3) := by decide +kernel
theorem dX5_daysOf_14 : decode cX5_daysOf 14 = .ok (.iconst 3, 1) := by decide +kernel
theorem dX5_daysOf_15 : decode cX5_daysOf 15 = .ok (.aload_n 0, 1) := by decide +kernel
theorem dX5_daysOf_16 : decode cX5_daysOf 16 = .ok (.getfield 26, 3) := by decide +kernel
theorem dX5_daysOf_19 : decode cX5_daysOf 19 = .ok (.iload_n 1, 1) := by decide +kernel
theorem dX5_daysOf_20 : decode cX5_daysOf 20 = .ok (.iaload, 1) := by decide +kernel
theorem dX5_daysOf_21 : decode cX5_daysOf 21 = .ok (.imul, 1) := by decide +kernel
theorem dX5_daysOf_22 : decode cX5_daysOf 22 = .ok (.iadd, 1) := by decide +kernel
theorem dX5_daysOf_23 : decode cX5_daysOf 23 = .ok (.ireturn, 1) := by decide +kernel
theorem dX5_engines_0 : decode cX5_engines 0 = .ok (.iconst 1, 1) := by decide +kernel
theorem dX5_engines_1 : decode cX5_engines 1 = .ok (.aload_n 0, 1) := by decide +kernel
theorem dX5_engines_2 : decode cX5_engines 2 = .ok (.getfield 9, 3) := by decide +kernel
theorem dX5_engines_5 : decode cX5_engines 5 = .ok (.iload_n 1, 1) := by decide +kernel
theorem dX5_engines_6 : decode cX5_engines 6 = .ok (.iconst 3, 1) := by decide +kernel
theorem dX5_engines_7 : decode cX5_engines 7 = .ok (.invokevirtual 50, 3) := by decide +kernel
theorem dX5_engines_10 : decode cX5_engines 10 = .ok (.aload_n 0, 1) := by decide +kernel
theorem dX5_engines_11 : decode cX5_engines 11 = .ok (.getfield 18, 3) := by decide +kernel
theorem dX5_engines_14 : decode cX5_engines 14 = .ok (.getfield 65, 3) := by decide +kernel
theorem dX5_engines_17 : decode cX5_engines 17 = .ok (.imul, 1) := by decide +kernel
theorem dX5_engines_18 : decode cX5_engines 18 = .ok (.bipush 100, 2) := by decide +kernel
theorem dX5_engines_20 : decode cX5_engines 20 = .ok (.idiv, 1) := by decide +kernel
theorem dX5_engines_21 : decode cX5_engines 21 = .ok (.iadd, 1) := by decide +kernel
theorem dX5_engines_22 : decode cX5_engines 22 = .ok (.ireturn, 1) := by decide +kernel
theorem dX5_firstRoad_0 : decode cX5_firstRoad 0 = .ok (.aload_n 0, 1) := by decide +kernel
theorem dX5_firstRoad_1 : decode cX5_firstRoad 1 = .ok (.iload_n 1, 1) := by decide +kernel
theorem dX5_firstRoad_2 : decode cX5_firstRoad 2 = .ok (.iload_n 2, 1) := by decide +kernel
theorem dX5_firstRoad_3 : decode cX5_firstRoad 3 = .ok (.invokevirtual 78, 3) := by decide +kernel
theorem dX5_firstRoad_6 : decode cX5_firstRoad 6 = .ok (.aload_n 0, 1) := by decide +kernel
theorem dX5_firstRoad_7 : decode cX5_firstRoad 7 = .ok (.iconst 1, 1) := by decide +kernel
theorem dX5_firstRoad_8 : decode cX5_firstRoad 8 = .ok (.invokevirtual 82, 3) := by decide +kernel
theorem dX5_firstRoad_11 : decode cX5_firstRoad 11 = .ok (.aload_n 0, 1) := by decide +kernel
theorem dX5_firstRoad_12 : decode cX5_firstRoad 12 = .ok (.iload 4, 2) := by decide +kernel
theorem dX5_firstRoad_14 : decode cX5_firstRoad 14 = .ok (.invokevirtual 86, 3) := by decide +kernel
theorem dX5_firstRoad_17 : decode cX5_firstRoad 17 = .ok (.iconst 0, 1) := by decide +kernel
theorem dX5_firstRoad_18 : decode cX5_firstRoad 18 = .ok (.istore 5, 2) := by decide +kernel
theorem dX5_firstRoad_20 : decode cX5_firstRoad 20 = .ok (.iload 5, 2) := by decide +kernel
theorem dX5_firstRoad_22 : decode cX5_firstRoad 22 = .ok (.aload_n 0, 1) := by decide +kernel
theorem dX5_firstRoad_23 : decode cX5_firstRoad 23 = .ok (.getfield 9, 3) := by decide +kernel
theorem dX5_firstRoad_26 : decode cX5_firstRoad 26 = .ok (.getfield 45, 3) := by decide +kernel
theorem dX5_firstRoad_29 : decode cX5_firstRoad 29 = .ok (.iconst 0, 1) := by decide +kernel
theorem dX5_firstRoad_30 : decode cX5_firstRoad 30 = .ok (.iaload, 1) := by decide +kernel
theorem dX5_firstRoad_31 : decode cX5_firstRoad 31 = .ok (.if_icmp .ge 74, 3) := by decide +kernel
theorem dX5_firstRoad_34 : decode cX5_firstRoad 34 = .ok (.aload_n 0, 1) := by decide +kernel
theorem dX5_firstRoad_35 : decode cX5_firstRoad 35 = .ok (.iload 5, 2) := by decide +kernel
theorem dX5_firstRoad_37 : decode cX5_firstRoad 37 = .ok (.iload_n 3, 1) := by decide +kernel
theorem dX5_firstRoad_38 : decode cX5_firstRoad 38 = .ok (.invokevirtual 103, 3) := by decide +kernel
theorem dX5_firstRoad_41 : decode cX5_firstRoad 41 = .ok (.istore 6, 2) := by decide +kernel
theorem dX5_firstRoad_43 : decode cX5_firstRoad 43 = .ok (.aload_n 0, 1) := by decide +kernel
theorem dX5_firstRoad_44 : decode cX5_firstRoad 44 = .ok (.getfield 26, 3) := by decide +kernel
theorem dX5_firstRoad_47 : decode cX5_firstRoad 47 = .ok (.iload 5, 2) := by decide +kernel
theorem dX5_firstRoad_49 : decode cX5_firstRoad 49 = .ok (.iaload, 1) := by decide +kernel
theorem dX5_firstRoad_50 : decode cX5_firstRoad 50 = .ok (.iconst (-1), 1) := by decide +kernel
theorem dX5_firstRoad_51 : decode cX5_firstRoad 51 = .ok (.if_icmp .eq 48, 3) := by decide +kernel
theorem dX5_firstRoad_54 : decode cX5_firstRoad 54 = .ok (.iload 6, 2) := by decide +kernel
theorem dX5_firstRoad_56 : decode cX5_firstRoad 56 = .ok (.iconst (-1), 1) := by decide +kernel
theorem dX5_firstRoad_57 : decode cX5_firstRoad 57 = .ok (.if_icmp .eq 42, 3) := by decide +kernel
theorem dX5_firstRoad_60 : decode cX5_firstRoad 60 = .ok (.aload_n 0, 1) := by decide +kernel
theorem dX5_firstRoad_61 : decode cX5_firstRoad 61 = .ok (.getfield 35, 3) := by decide +kernel
theorem dX5_firstRoad_64 : decode cX5_firstRoad 64 = .ok (.iload 6, 2) := by decide +kernel
theorem dX5_firstRoad_66 : decode cX5_firstRoad 66 = .ok (.iaload, 1) := by decide +kernel
theorem dX5_firstRoad_67 : decode cX5_firstRoad 67 = .ok (.ldc 89, 2) := by decide +kernel
theorem dX5_firstRoad_69 : decode cX5_firstRoad 69 = .ok (.if_icmp .eq 30, 3) := by decide +kernel
theorem dX5_firstRoad_72 : decode cX5_firstRoad 72 = .ok (.aload_n 0, 1) := by decide +kernel
theorem dX5_firstRoad_73 : decode cX5_firstRoad 73 = .ok (.getfield 35, 3) := by decide +kernel
theorem dX5_firstRoad_76 : decode cX5_firstRoad 76 = .ok (.iload 6, 2) := by decide +kernel
theorem dX5_firstRoad_78 : decode cX5_firstRoad 78 = .ok (.iaload, 1) := by decide +kernel
theorem dX5_firstRoad_79 : decode cX5_firstRoad 79 = .ok (.aload_n 0, 1) := by decide +kernel
theorem dX5_firstRoad_80 : decode cX5_firstRoad 80 = .ok (.getfield 32, 3) := by decide +kernel
theorem dX5_firstRoad_83 : decode cX5_firstRoad 83 = .ok (.iload 5, 2) := by decide +kernel
theorem dX5_firstRoad_85 : decode cX5_firstRoad 85 = .ok (.iaload, 1) := by decide +kernel
theorem dX5_firstRoad_86 : decode cX5_firstRoad 86 = .ok (.iadd, 1) := by decide +kernel
theorem dX5_firstRoad_87 : decode cX5_firstRoad 87 = .ok (.aload_n 0, 1) := by decide +kernel
theorem dX5_firstRoad_88 : decode cX5_firstRoad 88 = .ok (.getfield 35, 3) := by decide +kernel
theorem dX5_firstRoad_91 : decode cX5_firstRoad 91 = .ok (.iload_n 3, 1) := by decide +kernel
theorem dX5_firstRoad_92 : decode cX5_firstRoad 92 = .ok (.iaload, 1) := by decide +kernel
theorem dX5_firstRoad_93 : decode cX5_firstRoad 93 = .ok (.if_icmp .ne 6, 3) := by decide +kernel
theorem dX5_firstRoad_96 : decode cX5_firstRoad 96 = .ok (.iload 5, 2) := by decide +kernel
theorem dX5_firstRoad_98 : decode cX5_firstRoad 98 = .ok (.ireturn, 1) := by decide +kernel
theorem dX5_firstRoad_99 : decode cX5_firstRoad 99 = .ok (.iinc 5 1, 3) := by decide +kernel
theorem dX5_firstRoad_102 : decode cX5_firstRoad 102 = .ok (.goto (-82), 3) := by decide +kernel
theorem dX5_firstRoad_105 : decode cX5_firstRoad 105 = .ok (.iconst (-1), 1) := by decide +kernel
theorem dX5_firstRoad_106 : decode cX5_firstRoad 106 = .ok (.ireturn, 1) := by decide +kernel
theorem dX5_hasWay_0 : decode cX5_hasWay 0 = .ok (.aload_n 0, 1) := by decide +kernel
theorem dX5_hasWay_1 : decode cX5_hasWay 1 = .ok (.iload_n 1, 1) := by decide +kernel
theorem dX5_hasWay_2 : decode cX5_hasWay 2 = .ok (.iload_n 2, 1) := by decide +kernel
theorem dX5_hasWay_3 : decode cX5_hasWay 3 = .ok (.invokevirtual 78, 3) := by decide +kernel
theorem dX5_hasWay_6 : decode cX5_hasWay 6 = .ok (.aload_n 0, 1) := by decide +kernel
theorem dX5_hasWay_7 : decode cX5_hasWay 7 = .ok (.iconst 1, 1) := by decide +kernel
theorem dX5_hasWay_8 : decode cX5_hasWay 8 = .ok (.invokevirtual 82, 3) := by decide +kernel
theorem dX5_hasWay_11 : decode cX5_hasWay 11 = .ok (.aload_n 0, 1) := by decide +kernel
theorem dX5_hasWay_12 : decode cX5_hasWay 12 = .ok (.iload_n 3, 1) := by decide +kernel
theorem dX5_hasWay_13 : decode cX5_hasWay 13 = .ok (.invokevirtual 86, 3) := by decide +kernel
theorem dX5_hasWay_16 : decode cX5_hasWay 16 = .ok (.aload_n 0, 1) := by decide +kernel
theorem dX5_hasWay_17 : decode cX5_hasWay 17 = .ok (.getfield 35, 3) := by decide +kernel
theorem dX5_hasWay_20 : decode cX5_hasWay 20 = .ok (.iload 4, 2) := by decide +kernel
theorem dX5_hasWay_22 : decode cX5_hasWay 22 = .ok (.iaload, 1) := by decide +kernel
theorem dX5_hasWay_23 : decode cX5_hasWay 23 = .ok (.ldc 89, 2) := by decide +kernel
theorem dX5_hasWay_25 : decode cX5_hasWay 25 = .ok (.if_icmp .eq 7, 3) := by decide +kernel
theorem dX5_hasWay_28 : decode cX5_hasWay 28 = .ok (.iconst 1, 1) := by decide +kernel
theorem dX5_hasWay_29 : decode cX5_hasWay 29 = .ok (.goto 4, 3) := by decide +kernel
theorem dX5_hasWay_32 : decode cX5_hasWay 32 = .ok (.iconst 0, 1) := by decide +kernel
theorem dX5_hasWay_33 : decode cX5_hasWay 33 = .ok (.ireturn, 1) := by decide +kernel
theorem dX5_leastCoin_0 : decode cX5_leastCoin 0 = .ok (.aload_n 0, 1) := by decide +kernel
theorem dX5_leastCoin_1 : decode cX5_leastCoin 1 = .ok (.iload_n 1, 1) := by decide +kernel
theorem dX5_leastCoin_2 : decode cX5_leastCoin 2 = .ok (.iload_n 2, 1) := by decide +kernel
theorem dX5_leastCoin_3 : decode cX5_leastCoin 3 = .ok (.invokevirtual 78, 3) := by decide +kernel
theorem dX5_leastCoin_6 : decode cX5_leastCoin 6 = .ok (.aload_n 0, 1) := by decide +kernel
theorem dX5_leastCoin_7 : decode cX5_leastCoin 7 = .ok (.iload 5, 2) := by decide +kernel
theorem dX5_leastCoin_9 : decode cX5_leastCoin 9 = .ok (.invokevirtual 82, 3) := by decide +kernel
theorem dX5_leastCoin_12 : decode cX5_leastCoin 12 = .ok (.aload_n 0, 1) := by decide +kernel
theorem dX5_leastCoin_13 : decode cX5_leastCoin 13 = .ok (.iload_n 3, 1) := by decide +kernel
theorem dX5_leastCoin_14 : decode cX5_leastCoin 14 = .ok (.invokevirtual 86, 3) := by decide +kernel
theorem dX5_leastCoin_17 : decode cX5_leastCoin 17 = .ok (.aload_n 0, 1) := by decide +kernel
theorem dX5_leastCoin_18 : decode cX5_leastCoin 18 = .ok (.getfield 35, 3) := by decide +kernel
theorem dX5_leastCoin_21 : decode cX5_leastCoin 21 = .ok (.iload 4, 2) := by decide +kernel
theorem dX5_leastCoin_23 : decode cX5_leastCoin 23 = .ok (.iaload, 1) := by decide +kernel
theorem dX5_leastCoin_24 : decode cX5_leastCoin 24 = .ok (.ldc 89, 2) := by decide +kernel
theorem dX5_leastCoin_26 : decode cX5_leastCoin 26 = .ok (.if_icmp .ne 8, 3) := by decide +kernel
theorem dX5_leastCoin_29 : decode cX5_leastCoin 29 = .ok (.ldc 89, 2) := by decide +kernel
theorem dX5_leastCoin_31 : decode cX5_leastCoin 31 = .ok (.goto 21, 3) := by decide +kernel
theorem dX5_leastCoin_34 : decode cX5_leastCoin 34 = .ok (.aload_n 0, 1) := by decide +kernel
theorem dX5_leastCoin_35 : decode cX5_leastCoin 35 = .ok (.getfield 35, 3) := by decide +kernel
theorem dX5_leastCoin_38 : decode cX5_leastCoin 38 = .ok (.iload 4, 2) := by decide +kernel
theorem dX5_leastCoin_40 : decode cX5_leastCoin 40 = .ok (.iaload, 1) := by decide +kernel
theorem dX5_leastCoin_41 : decode cX5_leastCoin 41 = .ok (.iload 5, 2) := by decide +kernel
theorem dX5_leastCoin_43 : decode cX5_leastCoin 43 = .ok (.aload_n 0, 1) := by decide +kernel
theorem dX5_leastCoin_44 : decode cX5_leastCoin 44 = .ok (.getfield 18, 3) := by decide +kernel
theorem dX5_leastCoin_47 : decode cX5_leastCoin 47 = .ok (.getfield 90, 3) := by decide +kernel
theorem dX5_leastCoin_50 : decode cX5_leastCoin 50 = .ok (.imul, 1) := by decide +kernel
theorem dX5_leastCoin_51 : decode cX5_leastCoin 51 = .ok (.iadd, 1) := by decide +kernel
theorem dX5_leastCoin_52 : decode cX5_leastCoin 52 = .ok (.ireturn, 1) := by decide +kernel
theorem dX5_leastDays_0 : decode cX5_leastDays 0 = .ok (.aload_n 0, 1) := by decide +kernel
theorem dX5_leastDays_1 : decode cX5_leastDays 1 = .ok (.iload_n 1, 1) := by decide +kernel
theorem dX5_leastDays_2 : decode cX5_leastDays 2 = .ok (.iload_n 2, 1) := by decide +kernel
theorem dX5_leastDays_3 : decode cX5_leastDays 3 = .ok (.invokevirtual 78, 3) := by decide +kernel
theorem dX5_leastDays_6 : decode cX5_leastDays 6 = .ok (.iconst 0, 1) := by decide +kernel
theorem dX5_leastDays_7 : decode cX5_leastDays 7 = .ok (.istore 5, 2) := by decide +kernel
theorem dX5_leastDays_9 : decode cX5_leastDays 9 = .ok (.iload 5, 2) := by decide +kernel
theorem dX5_leastDays_11 : decode cX5_leastDays 11 = .ok (.aload_n 0, 1) := by decide +kernel
theorem dX5_leastDays_12 : decode cX5_leastDays 12 = .ok (.getfield 9, 3) := by decide +kernel
theorem dX5_leastDays_15 : decode cX5_leastDays 15 = .ok (.getfield 45, 3) := by decide +kernel
theorem dX5_leastDays_18 : decode cX5_leastDays 18 = .ok (.iconst 0, 1) := by decide +kernel
theorem dX5_leastDays_19 : decode cX5_leastDays 19 = .ok (.iaload, 1) := by decide +kernel
theorem dX5_leastDays_20 : decode cX5_leastDays 20 = .ok (.if_icmp .ge 22, 3) := by decide +kernel
theorem dX5_leastDays_23 : decode cX5_leastDays 23 = .ok (.aload_n 0, 1) := by decide +kernel
theorem dX5_leastDays_24 : decode cX5_leastDays 24 = .ok (.getfield 32, 3) := by decide +kernel
theorem dX5_leastDays_27 : decode cX5_leastDays 27 = .ok (.iload 5, 2) := by decide +kernel
theorem dX5_leastDays_29 : decode cX5_leastDays 29 = .ok (.aload_n 0, 1) := by decide +kernel
theorem dX5_leastDays_30 : decode cX5_leastDays 30 = .ok (.iload 5, 2) := by decide +kernel
theorem dX5_leastDays_32 : decode cX5_leastDays 32 = .ok (.invokevirtual 93, 3) := by decide +kernel
theorem dX5_leastDays_35 : decode cX5_leastDays 35 = .ok (.iastore, 1) := by decide +kernel
theorem dX5_leastDays_36 : decode cX5_leastDays 36 = .ok (.iinc 5 1, 3) := by decide +kernel
theorem dX5_leastDays_39 : decode cX5_leastDays 39 = .ok (.goto (-30), 3) := by decide +kernel
theorem dX5_leastDays_42 : decode cX5_leastDays 42 = .ok (.aload_n 0, 1) := by decide +kernel
theorem dX5_leastDays_43 : decode cX5_leastDays 43 = .ok (.iload_n 3, 1) := by decide +kernel
theorem dX5_leastDays_44 : decode cX5_leastDays 44 = .ok (.invokevirtual 86, 3) := by decide +kernel
theorem dX5_leastDays_47 : decode cX5_leastDays 47 = .ok (.aload_n 0, 1) := by decide +kernel
theorem dX5_leastDays_48 : decode cX5_leastDays 48 = .ok (.getfield 35, 3) := by decide +kernel
theorem dX5_leastDays_51 : decode cX5_leastDays 51 = .ok (.iload 4, 2) := by decide +kernel
theorem dX5_leastDays_53 : decode cX5_leastDays 53 = .ok (.iaload, 1) := by decide +kernel
theorem dX5_leastDays_54 : decode cX5_leastDays 54 = .ok (.ireturn, 1) := by decide +kernel
theorem dX5_otherEnd_0 : decode cX5_otherEnd 0 = .ok (.aload_n 0, 1) := by decide +kernel
theorem dX5_otherEnd_1 : decode cX5_otherEnd 1 = .ok (.getfield 9, 3) := by decide +kernel
theorem dX5_otherEnd_4 : decode cX5_otherEnd 4 = .ok (.iload_n 1, 1) := by decide +kernel
theorem dX5_otherEnd_5 : decode cX5_otherEnd 5 = .ok (.iconst 0, 1) := by decide +kernel
theorem dX5_otherEnd_6 : decode cX5_otherEnd 6 = .ok (.invokevirtual 50, 3) := by decide +kernel
theorem dX5_otherEnd_9 : decode cX5_otherEnd 9 = .ok (.iload_n 2, 1) := by decide +kernel
theorem dX5_otherEnd_10 : decode cX5_otherEnd 10 = .ok (.if_icmp .ne 13, 3) := by decide +kernel
theorem dX5_otherEnd_13 : decode cX5_otherEnd 13 = .ok (.aload_n 0, 1) := by decide +kernel
theorem dX5_otherEnd_14 : decode cX5_otherEnd 14 = .ok (.getfield 9, 3) := by decide +kernel
theorem dX5_otherEnd_17 : decode cX5_otherEnd 17 = .ok (.iload_n 1, 1) := by decide +kernel
theorem dX5_otherEnd_18 : decode cX5_otherEnd 18 = .ok (.iconst 1, 1) := by decide +kernel
theorem dX5_otherEnd_19 : decode cX5_otherEnd 19 = .ok (.invokevirtual 50, 3) := by decide +kernel
theorem dX5_otherEnd_22 : decode cX5_otherEnd 22 = .ok (.ireturn, 1) := by decide +kernel
theorem dX5_otherEnd_23 : decode cX5_otherEnd 23 = .ok (.aload_n 0, 1) := by decide +kernel
theorem dX5_otherEnd_24 : decode cX5_otherEnd 24 = .ok (.getfield 9, 3) := by decide +kernel
theorem dX5_otherEnd_27 : decode cX5_otherEnd 27 = .ok (.iload_n 1, 1) := by decide +kernel
theorem dX5_otherEnd_28 : decode cX5_otherEnd 28 = .ok (.iconst 1, 1) := by decide +kernel
theorem dX5_otherEnd_29 : decode cX5_otherEnd 29 = .ok (.invokevirtual 50, 3) := by decide +kernel
theorem dX5_otherEnd_32 : decode cX5_otherEnd 32 = .ok (.iload_n 2, 1) := by decide +kernel
theorem dX5_otherEnd_33 : decode cX5_otherEnd 33 = .ok (.if_icmp .ne 15, 3) := by decide +kernel
theorem dX5_otherEnd_36 : decode cX5_otherEnd 36 = .ok (.aload_n 0, 1) := by decide +kernel
theorem dX5_otherEnd_37 : decode cX5_otherEnd 37 = .ok (.getfield 9, 3) := by decide +kernel
theorem dX5_otherEnd_40 : decode cX5_otherEnd 40 = .ok (.iload_n 1, 1) := by decide +kernel
theorem dX5_otherEnd_41 : decode cX5_otherEnd 41 = .ok (.iconst 0, 1) := by decide +kernel
theorem dX5_otherEnd_42 : decode cX5_otherEnd 42 = .ok (.invokevirtual 50, 3) := by decide +kernel
theorem dX5_otherEnd_45 : decode cX5_otherEnd 45 = .ok (.goto 4, 3) := by decide +kernel
theorem dX5_otherEnd_48 : decode cX5_otherEnd 48 = .ok (.iconst (-1), 1) := by decide +kernel
theorem dX5_otherEnd_49 : decode cX5_otherEnd 49 = .ok (.ireturn, 1) := by decide +kernel
theorem dX5_priceByCoin_0 : decode cX5_priceByCoin 0 = .ok (.iconst 0, 1) := by decide +kernel
theorem dX5_priceByCoin_1 : decode cX5_priceByCoin 1 = .ok (.istore_n 2, 1) := by decide +kernel
theorem dX5_priceByCoin_2 : decode cX5_priceByCoin 2 = .ok (.iload_n 2, 1) := by decide +kernel
theorem dX5_priceByCoin_3 : decode cX5_priceByCoin 3 = .ok (.aload_n 0, 1) := by decide +kernel
theorem dX5_priceByCoin_4 : decode cX5_priceByCoin 4 = .ok (.getfield 9, 3) := by decide +kernel
theorem dX5_priceByCoin_7 : decode cX5_priceByCoin 7 = .ok (.getfield 45, 3) := by decide +kernel
theorem dX5_priceByCoin_10 : decode cX5_priceByCoin 10 = .ok (.iconst 0, 1) := by decide +kernel
theorem dX5_priceByCoin_11 : decode cX5_priceByCoin 11 = .ok (.iaload, 1) := by decide +kernel
theorem dX5_priceByCoin_12 : decode cX5_priceByCoin 12 = .ok (.if_icmp .ge 21, 3) := by decide +kernel
theorem dX5_priceByCoin_15 : decode cX5_priceByCoin 15 = .ok (.aload_n 0, 1) := by decide +kernel
theorem dX5_priceByCoin_16 : decode cX5_priceByCoin 16 = .ok (.getfield 32, 3) := by decide +kernel
theorem dX5_priceByCoin_19 : decode cX5_priceByCoin 19 = .ok (.iload_n 2, 1) := by decide +kernel
theorem dX5_priceByCoin_20 : decode cX5_priceByCoin 20 = .ok (.aload_n 0, 1) := by decide +kernel
theorem dX5_priceByCoin_21 : decode cX5_priceByCoin 21 = .ok (.iload_n 2, 1) := by decide +kernel
theorem dX5_priceByCoin_22 : decode cX5_priceByCoin 22 = .ok (.iload_n 1, 1) := by decide +kernel
theorem dX5_priceByCoin_23 : decode cX5_priceByCoin 23 = .ok (.invokevirtual 96, 3) := by decide +kernel
theorem dX5_priceByCoin_26 : decode cX5_priceByCoin 26 = .ok (.iastore, 1) := by decide +kernel
theorem dX5_priceByCoin_27 : decode cX5_priceByCoin 27 = .ok (.iinc 2 1, 3) := by decide +kernel
theorem dX5_priceByCoin_30 : decode cX5_priceByCoin 30 = .ok (.goto (-28), 3) := by decide +kernel
theorem dX5_priceByCoin_33 : decode cX5_priceByCoin 33 = .ok (.return_, 1) := by decide +kernel
theorem dX5_reached_0 : decode cX5_reached 0 = .ok (.aload_n 0, 1) := by decide +kernel
theorem dX5_reached_1 : decode cX5_reached 1 = .ok (.iload_n 1, 1) := by decide +kernel
theorem dX5_reached_2 : decode cX5_reached 2 = .ok (.iload_n 2, 1) := by decide +kernel
theorem dX5_reached_3 : decode cX5_reached 3 = .ok (.invokevirtual 78, 3) := by decide +kernel
theorem dX5_reached_6 : decode cX5_reached 6 = .ok (.aload_n 0, 1) := by decide +kernel
theorem dX5_reached_7 : decode cX5_reached 7 = .ok (.iconst 1, 1) := by decide +kernel
theorem dX5_reached_8 : decode cX5_reached 8 = .ok (.invokevirtual 82, 3) := by decide +kernel
theorem dX5_reached_11 : decode cX5_reached 11 = .ok (.aload_n 0, 1) := by decide +kernel
theorem dX5_reached_12 : decode cX5_reached 12 = .ok (.iload_n 3, 1) := by decide +kernel
theorem dX5_reached_13 : decode cX5_reached 13 = .ok (.invokevirtual 86, 3) := by decide +kernel
theorem dX5_reached_16 : decode cX5_reached 16 = .ok (.iconst 0, 1) := by decide +kernel
theorem dX5_reached_17 : decode cX5_reached 17 = .ok (.istore 4, 2) := by decide +kernel
theorem dX5_reached_19 : decode cX5_reached 19 = .ok (.iconst 0, 1) := by decide +kernel
theorem dX5_reached_20 : decode cX5_reached 20 = .ok (.istore 5, 2) := by decide +kernel
theorem dX5_reached_22 : decode cX5_reached 22 = .ok (.iload 5, 2) := by decide +kernel
theorem dX5_reached_24 : decode cX5_reached 24 = .ok (.bipush 16, 2) := by decide +kernel
theorem dX5_reached_26 : decode cX5_reached 26 = .ok (.if_icmp .ge 30, 3) := by decide +kernel
theorem dX5_reached_29 : decode cX5_reached 29 = .ok (.aload_n 0, 1) := by decide +kernel
theorem dX5_reached_30 : decode cX5_reached 30 = .ok (.getfield 35, 3) := by decide +kernel
theorem dX5_reached_33 : decode cX5_reached 33 = .ok (.iload 5, 2) := by decide +kernel
theorem dX5_reached_35 : decode cX5_reached 35 = .ok (.iaload, 1) := by decide +kernel
theorem dX5_reached_36 : decode cX5_reached 36 = .ok (.ldc 89, 2) := by decide +kernel
theorem dX5_reached_38 : decode cX5_reached 38 = .ok (.if_icmp .eq 12, 3) := by decide +kernel
theorem dX5_reached_41 : decode cX5_reached 41 = .ok (.iload 4, 2) := by decide +kernel
theorem dX5_reached_43 : decode cX5_reached 43 = .ok (.iconst 1, 1) := by decide +kernel
theorem dX5_reached_44 : decode cX5_reached 44 = .ok (.iload 5, 2) := by decide +kernel
theorem dX5_reached_46 : decode cX5_reached 46 = .ok (.ishl, 1) := by decide +kernel
theorem dX5_reached_47 : decode cX5_reached 47 = .ok (.ior, 1) := by decide +kernel
theorem dX5_reached_48 : decode cX5_reached 48 = .ok (.istore 4, 2) := by decide +kernel
theorem dX5_reached_50 : decode cX5_reached 50 = .ok (.iinc 5 1, 3) := by decide +kernel
theorem dX5_reached_53 : decode cX5_reached 53 = .ok (.goto (-31), 3) := by decide +kernel
theorem dX5_reached_56 : decode cX5_reached 56 = .ok (.iload 4, 2) := by decide +kernel
theorem dX5_reached_58 : decode cX5_reached 58 = .ok (.ireturn, 1) := by decide +kernel
theorem dX5_setOut_0 : decode cX5_setOut 0 = .ok (.aload_n 0, 1) := by decide +kernel
theorem dX5_setOut_1 : decode cX5_setOut 1 = .ok (.getfield 38, 3) := by decide +kernel
theorem dX5_setOut_4 : decode cX5_setOut 4 = .ok (.iconst 0, 1) := by decide +kernel
theorem dX5_setOut_5 : decode cX5_setOut 5 = .ok (.iconst 0, 1) := by decide +kernel
theorem dX5_setOut_6 : decode cX5_setOut 6 = .ok (.iastore, 1) := by decide +kernel
theorem dX5_setOut_7 : decode cX5_setOut 7 = .ok (.aload_n 0, 1) := by decide +kernel
theorem dX5_setOut_8 : decode cX5_setOut 8 = .ok (.getfield 38, 3) := by decide +kernel
theorem dX5_setOut_11 : decode cX5_setOut 11 = .ok (.iconst 1, 1) := by decide +kernel
theorem dX5_setOut_12 : decode cX5_setOut 12 = .ok (.iconst 0, 1) := by decide +kernel
theorem dX5_setOut_13 : decode cX5_setOut 13 = .ok (.iastore, 1) := by decide +kernel
theorem dX5_setOut_14 : decode cX5_setOut 14 = .ok (.aload_n 0, 1) := by decide +kernel
theorem dX5_setOut_15 : decode cX5_setOut 15 = .ok (.getfield 38, 3) := by decide +kernel
theorem dX5_setOut_18 : decode cX5_setOut 18 = .ok (.iconst 2, 1) := by decide +kernel
theorem dX5_setOut_19 : decode cX5_setOut 19 = .ok (.iconst 0, 1) := by decide +kernel
theorem dX5_setOut_20 : decode cX5_setOut 20 = .ok (.iastore, 1) := by decide +kernel
theorem dX5_setOut_21 : decode cX5_setOut 21 = .ok (.aload_n 0, 1) := by decide +kernel
theorem dX5_setOut_22 : decode cX5_setOut 22 = .ok (.getfield 38, 3) := by decide +kernel
theorem dX5_setOut_25 : decode cX5_setOut 25 = .ok (.iconst 3, 1) := by decide +kernel
theorem dX5_setOut_26 : decode cX5_setOut 26 = .ok (.iload_n 1, 1) := by decide +kernel
theorem dX5_setOut_27 : decode cX5_setOut 27 = .ok (.iastore, 1) := by decide +kernel
theorem dX5_setOut_28 : decode cX5_setOut 28 = .ok (.return_, 1) := by decide +kernel
theorem dX5_shorten_0 : decode cX5_shorten 0 = .ok (.aload_n 0, 1) := by decide +kernel
theorem dX5_shorten_1 : decode cX5_shorten 1 = .ok (.getfield 9, 3) := by decide +kernel
theorem dX5_shorten_4 : decode cX5_shorten 4 = .ok (.iload_n 1, 1) := by decide +kernel
theorem dX5_shorten_5 : decode cX5_shorten 5 = .ok (.iconst 0, 1) := by decide +kernel
theorem dX5_shorten_6 : decode cX5_shorten 6 = .ok (.invokevirtual 50, 3) := by decide +kernel
theorem dX5_shorten_9 : decode cX5_shorten 9 = .ok (.istore_n 2, 1) := by decide +kernel
theorem dX5_shorten_10 : decode cX5_shorten 10 = .ok (.aload_n 0, 1) := by decide +kernel
theorem dX5_shorten_11 : decode cX5_shorten 11 = .ok (.getfield 9, 3) := by decide +kernel
theorem dX5_shorten_14 : decode cX5_shorten 14 = .ok (.iload_n 1, 1) := by decide +kernel
theorem dX5_shorten_15 : decode cX5_shorten 15 = .ok (.iconst 1, 1) := by decide +kernel
theorem dX5_shorten_16 : decode cX5_shorten 16 = .ok (.invokevirtual 50, 3) := by decide +kernel
theorem dX5_shorten_19 : decode cX5_shorten 19 = .ok (.istore_n 3, 1) := by decide +kernel
theorem dX5_shorten_20 : decode cX5_shorten 20 = .ok (.aload_n 0, 1) := by decide +kernel
theorem dX5_shorten_21 : decode cX5_shorten 21 = .ok (.getfield 35, 3) := by decide +kernel
theorem dX5_shorten_24 : decode cX5_shorten 24 = .ok (.iload_n 2, 1) := by decide +kernel
theorem dX5_shorten_25 : decode cX5_shorten 25 = .ok (.iaload, 1) := by decide +kernel
theorem dX5_shorten_26 : decode cX5_shorten 26 = .ok (.ldc 89, 2) := by decide +kernel
theorem dX5_shorten_28 : decode cX5_shorten 28 = .ok (.if_icmp .eq 46, 3) := by decide +kernel
theorem dX5_shorten_31 : decode cX5_shorten 31 = .ok (.aload_n 0, 1) := by decide +kernel
theorem dX5_shorten_32 : decode cX5_shorten 32 = .ok (.getfield 35, 3) := by decide +kernel
theorem dX5_shorten_35 : decode cX5_shorten 35 = .ok (.iload_n 2, 1) := by decide +kernel
theorem dX5_shorten_36 : decode cX5_shorten 36 = .ok (.iaload, 1) := by decide +kernel
theorem dX5_shorten_37 : decode cX5_shorten 37 = .ok (.aload_n 0, 1) := by decide +kernel
theorem dX5_shorten_38 : decode cX5_shorten 38 = .ok (.getfield 32, 3) := by decide +kernel
theorem dX5_shorten_41 : decode cX5_shorten 41 = .ok (.iload_n 1, 1) := by decide +kernel
theorem dX5_shorten_42 : decode cX5_shorten 42 = .ok (.iaload, 1) := by decide +kernel
theorem dX5_shorten_43 : decode cX5_shorten 43 = .ok (.iadd, 1) := by decide +kernel
theorem dX5_shorten_44 : decode cX5_shorten 44 = .ok (.aload_n 0, 1) := by decide +kernel
theorem dX5_shorten_45 : decode cX5_shorten 45 = .ok (.getfield 35, 3) := by decide +kernel
theorem dX5_shorten_48 : decode cX5_shorten 48 = .ok (.iload_n 3, 1) := by decide +kernel
theorem dX5_shorten_49 : decode cX5_shorten 49 = .ok (.iaload, 1) := by decide +kernel
theorem dX5_shorten_50 : decode cX5_shorten 50 = .ok (.if_icmp .ge 24, 3) := by decide +kernel
theorem dX5_shorten_53 : decode cX5_shorten 53 = .ok (.aload_n 0, 1) := by decide +kernel
theorem dX5_shorten_54 : decode cX5_shorten 54 = .ok (.getfield 35, 3) := by decide +kernel
theorem dX5_shorten_57 : decode cX5_shorten 57 = .ok (.iload_n 3, 1) := by decide +kernel
theorem dX5_shorten_58 : decode cX5_shorten 58 = .ok (.aload_n 0, 1) := by decide +kernel
theorem dX5_shorten_59 : decode cX5_shorten 59 = .ok (.getfield 35, 3) := by decide +kernel
theorem dX5_shorten_62 : decode cX5_shorten 62 = .ok (.iload_n 2, 1) := by decide +kernel
theorem dX5_shorten_63 : decode cX5_shorten 63 = .ok (.iaload, 1) := by decide +kernel
theorem dX5_shorten_64 : decode cX5_shorten 64 = .ok (.aload_n 0, 1) := by decide +kernel
theorem dX5_shorten_65 : decode cX5_shorten 65 = .ok (.getfield 32, 3) := by decide +kernel
theorem dX5_shorten_68 : decode cX5_shorten 68 = .ok (.iload_n 1, 1) := by decide +kernel
theorem dX5_shorten_69 : decode cX5_shorten 69 = .ok (.iaload, 1) := by decide +kernel
theorem dX5_shorten_70 : decode cX5_shorten 70 = .ok (.iadd, 1) := by decide +kernel
theorem dX5_shorten_71 : decode cX5_shorten 71 = .ok (.iastore, 1) := by decide +kernel
theorem dX5_shorten_72 : decode cX5_shorten 72 = .ok (.iconst 1, 1) := by decide +kernel
theorem dX5_shorten_73 : decode cX5_shorten 73 = .ok (.ireturn, 1) := by decide +kernel
theorem dX5_shorten_74 : decode cX5_shorten 74 = .ok (.aload_n 0, 1) := by decide +kernel
theorem dX5_shorten_75 : decode cX5_shorten 75 = .ok (.getfield 35, 3) := by decide +kernel
theorem dX5_shorten_78 : decode cX5_shorten 78 = .ok (.iload_n 3, 1) := by decide +kernel
theorem dX5_shorten_79 : decode cX5_shorten 79 = .ok (.iaload, 1) := by decide +kernel
theorem dX5_shorten_80 : decode cX5_shorten 80 = .ok (.ldc 89, 2) := by decide +kernel
theorem dX5_shorten_82 : decode cX5_shorten 82 = .ok (.if_icmp .eq 46, 3) := by decide +kernel
theorem dX5_shorten_85 : decode cX5_shorten 85 = .ok (.aload_n 0, 1) := by decide +kernel
theorem dX5_shorten_86 : decode cX5_shorten 86 = .ok (.getfield 35, 3) := by decide +kernel
theorem dX5_shorten_89 : decode cX5_shorten 89 = .ok (.iload_n 3, 1) := by decide +kernel
theorem dX5_shorten_90 : decode cX5_shorten 90 = .ok (.iaload, 1) := by decide +kernel
theorem dX5_shorten_91 : decode cX5_shorten 91 = .ok (.aload_n 0, 1) := by decide +kernel
theorem dX5_shorten_92 : decode cX5_shorten 92 = .ok (.getfield 32, 3) := by decide +kernel
theorem dX5_shorten_95 : decode cX5_shorten 95 = .ok (.iload_n 1, 1) := by decide +kernel
theorem dX5_shorten_96 : decode cX5_shorten 96 = .ok (.iaload, 1) := by decide +kernel
theorem dX5_shorten_97 : decode cX5_shorten 97 = .ok (.iadd, 1) := by decide +kernel
theorem dX5_shorten_98 : decode cX5_shorten 98 = .ok (.aload_n 0, 1) := by decide +kernel
theorem dX5_shorten_99 : decode cX5_shorten 99 = .ok (.getfield 35, 3) := by decide +kernel
theorem dX5_shorten_102 : decode cX5_shorten 102 = .ok (.iload_n 2, 1) := by decide +kernel
theorem dX5_shorten_103 : decode cX5_shorten 103 = .ok (.iaload, 1) := by decide +kernel
theorem dX5_shorten_104 : decode cX5_shorten 104 = .ok (.if_icmp .ge 24, 3) := by decide +kernel
theorem dX5_shorten_107 : decode cX5_shorten 107 = .ok (.aload_n 0, 1) := by decide +kernel
theorem dX5_shorten_108 : decode cX5_shorten 108 = .ok (.getfield 35, 3) := by decide +kernel
theorem dX5_shorten_111 : decode cX5_shorten 111 = .ok (.iload_n 2, 1) := by decide +kernel
theorem dX5_shorten_112 : decode cX5_shorten 112 = .ok (.aload_n 0, 1) := by decide +kernel
theorem dX5_shorten_113 : decode cX5_shorten 113 = .ok (.getfield 35, 3) := by decide +kernel
theorem dX5_shorten_116 : decode cX5_shorten 116 = .ok (.iload_n 3, 1) := by decide +kernel
theorem dX5_shorten_117 : decode cX5_shorten 117 = .ok (.iaload, 1) := by decide +kernel
theorem dX5_shorten_118 : decode cX5_shorten 118 = .ok (.aload_n 0, 1) := by decide +kernel
theorem dX5_shorten_119 : decode cX5_shorten 119 = .ok (.getfield 32, 3) := by decide +kernel
theorem dX5_shorten_122 : decode cX5_shorten 122 = .ok (.iload_n 1, 1) := by decide +kernel
theorem dX5_shorten_123 : decode cX5_shorten 123 = .ok (.iaload, 1) := by decide +kernel
theorem dX5_shorten_124 : decode cX5_shorten 124 = .ok (.iadd, 1) := by decide +kernel
theorem dX5_shorten_125 : decode cX5_shorten 125 = .ok (.iastore, 1) := by decide +kernel
theorem dX5_shorten_126 : decode cX5_shorten 126 = .ok (.iconst 1, 1) := by decide +kernel
theorem dX5_shorten_127 : decode cX5_shorten 127 = .ok (.ireturn, 1) := by decide +kernel
theorem dX5_shorten_128 : decode cX5_shorten 128 = .ok (.iconst 0, 1) := by decide +kernel
theorem dX5_shorten_129 : decode cX5_shorten 129 = .ok (.ireturn, 1) := by decide +kernel
theorem dX5_spread_0 : decode cX5_spread 0 = .ok (.iconst 0, 1) := by decide +kernel
theorem dX5_spread_1 : decode cX5_spread 1 = .ok (.istore_n 2, 1) := by decide +kernel
theorem dX5_spread_2 : decode cX5_spread 2 = .ok (.iload_n 2, 1) := by decide +kernel
theorem dX5_spread_3 : decode cX5_spread 3 = .ok (.bipush 16, 2) := by decide +kernel
theorem dX5_spread_5 : decode cX5_spread 5 = .ok (.if_icmp .ge 17, 3) := by decide +kernel
theorem dX5_spread_8 : decode cX5_spread 8 = .ok (.aload_n 0, 1) := by decide +kernel
theorem dX5_spread_9 : decode cX5_spread 9 = .ok (.getfield 35, 3) := by decide +kernel
theorem dX5_spread_12 : decode cX5_spread 12 = .ok (.iload_n 2, 1) := by decide +kernel
theorem dX5_spread_13 : decode cX5_spread 13 = .ok (.ldc 89, 2) := by decide +kernel
theorem dX5_spread_15 : decode cX5_spread 15 = .ok (.iastore, 1) := by decide +kernel
theorem dX5_spread_16 : decode cX5_spread 16 = .ok (.iinc 2 1, 3) := by decide +kernel
theorem dX5_spread_19 : decode cX5_spread 19 = .ok (.goto (-17), 3) := by decide +kernel
theorem dX5_spread_22 : decode cX5_spread 22 = .ok (.aload_n 0, 1) := by decide +kernel
theorem dX5_spread_23 : decode cX5_spread 23 = .ok (.getfield 35, 3) := by decide +kernel
theorem dX5_spread_26 : decode cX5_spread 26 = .ok (.iload_n 1, 1) := by decide +kernel
theorem dX5_spread_27 : decode cX5_spread 27 = .ok (.iconst 0, 1) := by decide +kernel
theorem dX5_spread_28 : decode cX5_spread 28 = .ok (.iastore, 1) := by decide +kernel
theorem dX5_spread_29 : decode cX5_spread 29 = .ok (.iconst 1, 1) := by decide +kernel
theorem dX5_spread_30 : decode cX5_spread 30 = .ok (.istore_n 2, 1) := by decide +kernel
theorem dX5_spread_31 : decode cX5_spread 31 = .ok (.iconst 0, 1) := by decide +kernel
theorem dX5_spread_32 : decode cX5_spread 32 = .ok (.istore_n 3, 1) := by decide +kernel
theorem dX5_spread_33 : decode cX5_spread 33 = .ok (.iload_n 3, 1) := by decide +kernel
theorem dX5_spread_34 : decode cX5_spread 34 = .ok (.bipush 16, 2) := by decide +kernel
theorem dX5_spread_36 : decode cX5_spread 36 = .ok (.if_icmp .ge 60, 3) := by decide +kernel
theorem dX5_spread_39 : decode cX5_spread 39 = .ok (.iload_n 2, 1) := by decide +kernel
theorem dX5_spread_40 : decode cX5_spread 40 = .ok (.ifCond .eq 56, 3) := by decide +kernel
theorem dX5_spread_43 : decode cX5_spread 43 = .ok (.iconst 0, 1) := by decide +kernel
theorem dX5_spread_44 : decode cX5_spread 44 = .ok (.istore_n 2, 1) := by decide +kernel
theorem dX5_spread_45 : decode cX5_spread 45 = .ok (.iconst 0, 1) := by decide +kernel
theorem dX5_spread_46 : decode cX5_spread 46 = .ok (.istore 4, 2) := by decide +kernel
theorem dX5_spread_48 : decode cX5_spread 48 = .ok (.iload 4, 2) := by decide +kernel
theorem dX5_spread_50 : decode cX5_spread 50 = .ok (.aload_n 0, 1) := by decide +kernel
theorem dX5_spread_51 : decode cX5_spread 51 = .ok (.getfield 9, 3) := by decide +kernel
theorem dX5_spread_54 : decode cX5_spread 54 = .ok (.getfield 45, 3) := by decide +kernel
theorem dX5_spread_57 : decode cX5_spread 57 = .ok (.iconst 0, 1) := by decide +kernel
theorem dX5_spread_58 : decode cX5_spread 58 = .ok (.iaload, 1) := by decide +kernel
theorem dX5_spread_59 : decode cX5_spread 59 = .ok (.if_icmp .ge 31, 3) := by decide +kernel
theorem dX5_spread_62 : decode cX5_spread 62 = .ok (.aload_n 0, 1) := by decide +kernel
theorem dX5_spread_63 : decode cX5_spread 63 = .ok (.getfield 26, 3) := by decide +kernel
theorem dX5_spread_66 : decode cX5_spread 66 = .ok (.iload 4, 2) := by decide +kernel
theorem dX5_spread_68 : decode cX5_spread 68 = .ok (.iaload, 1) := by decide +kernel
theorem dX5_spread_69 : decode cX5_spread 69 = .ok (.iconst (-1), 1) := by decide +kernel
theorem dX5_spread_70 : decode cX5_spread 70 = .ok (.if_icmp .eq 14, 3) := by decide +kernel
theorem dX5_spread_73 : decode cX5_spread 73 = .ok (.aload_n 0, 1) := by decide +kernel
theorem dX5_spread_74 : decode cX5_spread 74 = .ok (.iload 4, 2) := by decide +kernel
theorem dX5_spread_76 : decode cX5_spread 76 = .ok (.invokevirtual 99, 3) := by decide +kernel
theorem dX5_spread_79 : decode cX5_spread 79 = .ok (.ifCond .eq 5, 3) := by decide +kernel
theorem dX5_spread_82 : decode cX5_spread 82 = .ok (.iconst 1, 1) := by decide +kernel
theorem dX5_spread_83 : decode cX5_spread 83 = .ok (.istore_n 2, 1) := by decide +kernel
theorem dX5_spread_84 : decode cX5_spread 84 = .ok (.iinc 4 1, 3) := by decide +kernel
theorem dX5_spread_87 : decode cX5_spread 87 = .ok (.goto (-39), 3) := by decide +kernel
theorem dX5_spread_90 : decode cX5_spread 90 = .ok (.iinc 3 1, 3) := by decide +kernel
theorem dX5_spread_93 : decode cX5_spread 93 = .ok (.goto (-60), 3) := by decide +kernel
theorem dX5_spread_96 : decode cX5_spread 96 = .ok (.return_, 1) := by decide +kernel
theorem dX5_standProps_0 : decode cX5_standProps 0 = .ok (.iconst 0, 1) := by decide +kernel
theorem dX5_standProps_1 : decode cX5_standProps 1 = .ok (.istore_n 2, 1) := by decide +kernel
theorem dX5_standProps_2 : decode cX5_standProps 2 = .ok (.iload_n 2, 1) := by decide +kernel
theorem dX5_standProps_3 : decode cX5_standProps 3 = .ok (.aload_n 0, 1) := by decide +kernel
theorem dX5_standProps_4 : decode cX5_standProps 4 = .ok (.getfield 9, 3) := by decide +kernel
theorem dX5_standProps_7 : decode cX5_standProps 7 = .ok (.getfield 45, 3) := by decide +kernel
theorem dX5_standProps_10 : decode cX5_standProps 10 = .ok (.iconst 1, 1) := by decide +kernel
theorem dX5_standProps_11 : decode cX5_standProps 11 = .ok (.iaload, 1) := by decide +kernel
theorem dX5_standProps_12 : decode cX5_standProps 12 = .ok (.if_icmp .ge 49, 3) := by decide +kernel
theorem dX5_standProps_15 : decode cX5_standProps 15 = .ok (.aload_n 0, 1) := by decide +kernel
theorem dX5_standProps_16 : decode cX5_standProps 16 = .ok (.getfield 9, 3) := by decide +kernel
theorem dX5_standProps_19 : decode cX5_standProps 19 = .ok (.iload_n 2, 1) := by decide +kernel
theorem dX5_standProps_20 : decode cX5_standProps 20 = .ok (.iconst 0, 1) := by decide +kernel
theorem dX5_standProps_21 : decode cX5_standProps 21 = .ok (.invokevirtual 58, 3) := by decide +kernel
theorem dX5_standProps_24 : decode cX5_standProps 24 = .ok (.iload_n 1, 1) := by decide +kernel
theorem dX5_standProps_25 : decode cX5_standProps 25 = .ok (.if_icmp .ne 30, 3) := by decide +kernel
theorem dX5_standProps_28 : decode cX5_standProps 28 = .ok (.aload_n 0, 1) := by decide +kernel
theorem dX5_standProps_29 : decode cX5_standProps 29 = .ok (.getfield 18, 3) := by decide +kernel
theorem dX5_standProps_32 : decode cX5_standProps 32 = .ok (.aload_n 0, 1) := by decide +kernel
theorem dX5_standProps_33 : decode cX5_standProps 33 = .ok (.getfield 9, 3) := by decide +kernel
theorem dX5_standProps_36 : decode cX5_standProps 36 = .ok (.iload_n 2, 1) := by decide +kernel
theorem dX5_standProps_37 : decode cX5_standProps 37 = .ok (.invokevirtual 61, 3) := by decide +kernel
theorem dX5_standProps_40 : decode cX5_standProps 40 = .ok (.iconst 1, 1) := by decide +kernel
theorem dX5_standProps_41 : decode cX5_standProps 41 = .ok (.if_icmp .ne 14, 3) := by decide +kernel
theorem dX5_standProps_44 : decode cX5_standProps 44 = .ok (.aload_n 0, 1) := by decide +kernel
theorem dX5_standProps_45 : decode cX5_standProps 45 = .ok (.getfield 9, 3) := by decide +kernel
theorem dX5_standProps_48 : decode cX5_standProps 48 = .ok (.iload_n 2, 1) := by decide +kernel
theorem dX5_standProps_49 : decode cX5_standProps 49 = .ok (.bipush 7, 2) := by decide +kernel
theorem dX5_standProps_51 : decode cX5_standProps 51 = .ok (.iconst 1, 1) := by decide +kernel
theorem dX5_standProps_52 : decode cX5_standProps 52 = .ok (.invokevirtual 106, 3) := by decide +kernel
theorem dX5_standProps_55 : decode cX5_standProps 55 = .ok (.iinc 2 1, 3) := by decide +kernel
theorem dX5_standProps_58 : decode cX5_standProps 58 = .ok (.goto (-56), 3) := by decide +kernel
theorem dX5_standProps_61 : decode cX5_standProps 61 = .ok (.return_, 1) := by decide +kernel
theorem dX5_survey_0 : decode cX5_survey 0 = .ok (.aload_n 0, 1) := by decide +kernel
theorem dX5_survey_1 : decode cX5_survey 1 = .ok (.getfield 18, 3) := by decide +kernel
theorem dX5_survey_4 : decode cX5_survey 4 = .ok (.aload_n 0, 1) := by decide +kernel
theorem dX5_survey_5 : decode cX5_survey 5 = .ok (.getfield 9, 3) := by decide +kernel
theorem dX5_survey_8 : decode cX5_survey 8 = .ok (.iload_n 1, 1) := by decide +kernel
theorem dX5_survey_9 : decode cX5_survey 9 = .ok (.iload_n 2, 1) := by decide +kernel
theorem dX5_survey_10 : decode cX5_survey 10 = .ok (.invokevirtual 41, 3) := by decide +kernel
theorem dX5_survey_13 : decode cX5_survey 13 = .ok (.iconst 0, 1) := by decide +kernel
theorem dX5_survey_14 : decode cX5_survey 14 = .ok (.istore_n 3, 1) := by decide +kernel
theorem dX5_survey_15 : decode cX5_survey 15 = .ok (.iload_n 3, 1) := by decide +kernel
theorem dX5_survey_16 : decode cX5_survey 16 = .ok (.aload_n 0, 1) := by decide +kernel
theorem dX5_survey_17 : decode cX5_survey 17 = .ok (.getfield 9, 3) := by decide +kernel
theorem dX5_survey_20 : decode cX5_survey 20 = .ok (.getfield 45, 3) := by decide +kernel
theorem dX5_survey_23 : decode cX5_survey 23 = .ok (.iconst 0, 1) := by decide +kernel
theorem dX5_survey_24 : decode cX5_survey 24 = .ok (.iaload, 1) := by decide +kernel
theorem dX5_survey_25 : decode cX5_survey 25 = .ok (.if_icmp .ge 71, 3) := by decide +kernel
theorem dX5_survey_28 : decode cX5_survey 28 = .ok (.aload_n 0, 1) := by decide +kernel
theorem dX5_survey_29 : decode cX5_survey 29 = .ok (.getfield 9, 3) := by decide +kernel
theorem dX5_survey_32 : decode cX5_survey 32 = .ok (.iload_n 3, 1) := by decide +kernel
theorem dX5_survey_33 : decode cX5_survey 33 = .ok (.bipush 6, 2) := by decide +kernel
theorem dX5_survey_35 : decode cX5_survey 35 = .ok (.invokevirtual 50, 3) := by decide +kernel
theorem dX5_survey_38 : decode cX5_survey 38 = .ok (.ifCond .ne 26, 3) := by decide +kernel
theorem dX5_survey_41 : decode cX5_survey 41 = .ok (.aload_n 0, 1) := by decide +kernel
theorem dX5_survey_42 : decode cX5_survey 42 = .ok (.getfield 9, 3) := by decide +kernel
theorem dX5_survey_45 : decode cX5_survey 45 = .ok (.iload_n 3, 1) := by decide +kernel
theorem dX5_survey_46 : decode cX5_survey 46 = .ok (.iconst 4, 1) := by decide +kernel
theorem dX5_survey_47 : decode cX5_survey 47 = .ok (.invokevirtual 50, 3) := by decide +kernel
theorem dX5_survey_50 : decode cX5_survey 50 = .ok (.aload_n 0, 1) := by decide +kernel
theorem dX5_survey_51 : decode cX5_survey 51 = .ok (.getfield 18, 3) := by decide +kernel
theorem dX5_survey_54 : decode cX5_survey 54 = .ok (.getfield 54, 3) := by decide +kernel
theorem dX5_survey_57 : decode cX5_survey 57 = .ok (.if_icmp .lt 7, 3) := by decide +kernel
theorem dX5_survey_60 : decode cX5_survey 60 = .ok (.iconst 1, 1) := by decide +kernel
theorem dX5_survey_61 : decode cX5_survey 61 = .ok (.goto 4, 3) := by decide +kernel
theorem dX5_survey_64 : decode cX5_survey 64 = .ok (.iconst 0, 1) := by decide +kernel
theorem dX5_survey_65 : decode cX5_survey 65 = .ok (.istore 4, 2) := by decide +kernel
theorem dX5_survey_67 : decode cX5_survey 67 = .ok (.aload_n 0, 1) := by decide +kernel
theorem dX5_survey_68 : decode cX5_survey 68 = .ok (.getfield 26, 3) := by decide +kernel
theorem dX5_survey_71 : decode cX5_survey 71 = .ok (.iload_n 3, 1) := by decide +kernel
theorem dX5_survey_72 : decode cX5_survey 72 = .ok (.iload 4, 2) := by decide +kernel
theorem dX5_survey_74 : decode cX5_survey 74 = .ok (.ifCond .eq 7, 3) := by decide +kernel
theorem dX5_survey_77 : decode cX5_survey 77 = .ok (.iconst 0, 1) := by decide +kernel
theorem dX5_survey_78 : decode cX5_survey 78 = .ok (.goto 4, 3) := by decide +kernel
theorem dX5_survey_81 : decode cX5_survey 81 = .ok (.iconst (-1), 1) := by decide +kernel
theorem dX5_survey_82 : decode cX5_survey 82 = .ok (.iastore, 1) := by decide +kernel
theorem dX5_survey_83 : decode cX5_survey 83 = .ok (.aload_n 0, 1) := by decide +kernel
theorem dX5_survey_84 : decode cX5_survey 84 = .ok (.getfield 29, 3) := by decide +kernel
theorem dX5_survey_87 : decode cX5_survey 87 = .ok (.iload_n 3, 1) := by decide +kernel
theorem dX5_survey_88 : decode cX5_survey 88 = .ok (.iconst 0, 1) := by decide +kernel
theorem dX5_survey_89 : decode cX5_survey 89 = .ok (.iastore, 1) := by decide +kernel
theorem dX5_survey_90 : decode cX5_survey 90 = .ok (.iinc 3 1, 3) := by decide +kernel
theorem dX5_survey_93 : decode cX5_survey 93 = .ok (.goto (-78), 3) := by decide +kernel
theorem dX5_survey_96 : decode cX5_survey 96 = .ok (.iconst 0, 1) := by decide +kernel
theorem dX5_survey_97 : decode cX5_survey 97 = .ok (.istore_n 3, 1) := by decide +kernel
theorem dX5_survey_98 : decode cX5_survey 98 = .ok (.iload_n 3, 1) := by decide +kernel
theorem dX5_survey_99 : decode cX5_survey 99 = .ok (.aload_n 0, 1) := by decide +kernel
theorem dX5_survey_100 : decode cX5_survey 100 = .ok (.getfield 9, 3) := by decide +kernel
theorem dX5_survey_103 : decode cX5_survey 103 = .ok (.getfield 45, 3) := by decide +kernel
theorem dX5_survey_106 : decode cX5_survey 106 = .ok (.iconst 1, 1) := by decide +kernel
theorem dX5_survey_107 : decode cX5_survey 107 = .ok (.iaload, 1) := by decide +kernel
theorem dX5_survey_108 : decode cX5_survey 108 = .ok (.if_icmp .ge 103, 3) := by decide +kernel
theorem dX5_survey_111 : decode cX5_survey 111 = .ok (.aload_n 0, 1) := by decide +kernel
theorem dX5_survey_112 : decode cX5_survey 112 = .ok (.getfield 9, 3) := by decide +kernel
theorem dX5_survey_115 : decode cX5_survey 115 = .ok (.iload_n 3, 1) := by decide +kernel
theorem dX5_survey_116 : decode cX5_survey 116 = .ok (.iconst 0, 1) := by decide +kernel
theorem dX5_survey_117 : decode cX5_survey 117 = .ok (.invokevirtual 58, 3) := by decide +kernel
theorem dX5_survey_120 : decode cX5_survey 120 = .ok (.istore 4, 2) := by decide +kernel
theorem dX5_survey_122 : decode cX5_survey 122 = .ok (.aload_n 0, 1) := by decide +kernel
theorem dX5_survey_123 : decode cX5_survey 123 = .ok (.getfield 26, 3) := by decide +kernel
theorem dX5_survey_126 : decode cX5_survey 126 = .ok (.iload 4, 2) := by decide +kernel
theorem dX5_survey_128 : decode cX5_survey 128 = .ok (.iaload, 1) := by decide +kernel
theorem dX5_survey_129 : decode cX5_survey 129 = .ok (.iconst (-1), 1) := by decide +kernel
theorem dX5_survey_130 : decode cX5_survey 130 = .ok (.if_icmp .ne 7, 3) := by decide +kernel
theorem dX5_survey_133 : decode cX5_survey 133 = .ok (.iconst 2, 1) := by decide +kernel
theorem dX5_survey_134 : decode cX5_survey 134 = .ok (.goto 15, 3) := by decide +kernel
theorem dX5_survey_137 : decode cX5_survey 137 = .ok (.aload_n 0, 1) := by decide +kernel
theorem dX5_survey_138 : decode cX5_survey 138 = .ok (.getfield 18, 3) := by decide +kernel
theorem dX5_survey_141 : decode cX5_survey 141 = .ok (.aload_n 0, 1) := by decide +kernel
theorem dX5_survey_142 : decode cX5_survey 142 = .ok (.getfield 9, 3) := by decide +kernel
theorem dX5_survey_145 : decode cX5_survey 145 = .ok (.iload_n 3, 1) := by decide +kernel
theorem dX5_survey_146 : decode cX5_survey 146 = .ok (.invokevirtual 61, 3) := by decide +kernel
theorem dX5_survey_149 : decode cX5_survey 149 = .ok (.istore 5, 2) := by decide +kernel
theorem dX5_survey_151 : decode cX5_survey 151 = .ok (.iload 5, 2) := by decide +kernel
theorem dX5_survey_153 : decode cX5_survey 153 = .ok (.iconst 2, 1) := by decide +kernel
theorem dX5_survey_154 : decode cX5_survey 154 = .ok (.if_icmp .ne 14, 3) := by decide +kernel
theorem dX5_survey_157 : decode cX5_survey 157 = .ok (.aload_n 0, 1) := by decide +kernel
theorem dX5_survey_158 : decode cX5_survey 158 = .ok (.getfield 26, 3) := by decide +kernel
theorem dX5_survey_161 : decode cX5_survey 161 = .ok (.iload 4, 2) := by decide +kernel
theorem dX5_survey_163 : decode cX5_survey 163 = .ok (.iconst (-1), 1) := by decide +kernel
theorem dX5_survey_164 : decode cX5_survey 164 = .ok (.iastore, 1) := by decide +kernel
theorem dX5_survey_165 : decode cX5_survey 165 = .ok (.goto 40, 3) := by decide +kernel
theorem dX5_survey_168 : decode cX5_survey 168 = .ok (.iload 5, 2) := by decide +kernel
theorem dX5_survey_170 : decode cX5_survey 170 = .ok (.iconst 1, 1) := by decide +kernel
theorem dX5_survey_171 : decode cX5_survey 171 = .ok (.if_icmp .ne 34, 3) := by decide +kernel
theorem dX5_survey_174 : decode cX5_survey 174 = .ok (.aload_n 0, 1) := by decide +kernel
theorem dX5_survey_175 : decode cX5_survey 175 = .ok (.getfield 26, 3) := by decide +kernel
theorem dX5_survey_178 : decode cX5_survey 178 = .ok (.iload 4, 2) := by decide +kernel
theorem dX5_survey_180 : decode cX5_survey 180 = .ok (.dup2, 1) := by decide +kernel
theorem dX5_survey_181 : decode cX5_survey 181 = .ok (.iaload, 1) := by decide +kernel
theorem dX5_survey_182 : decode cX5_survey 182 = .ok (.iconst 1, 1) := by decide +kernel
theorem dX5_survey_183 : decode cX5_survey 183 = .ok (.iadd, 1) := by decide +kernel
theorem dX5_survey_184 : decode cX5_survey 184 = .ok (.iastore, 1) := by decide +kernel
theorem dX5_survey_185 : decode cX5_survey 185 = .ok (.aload_n 0, 1) := by decide +kernel
theorem dX5_survey_186 : decode cX5_survey 186 = .ok (.getfield 29, 3) := by decide +kernel
theorem dX5_survey_189 : decode cX5_survey 189 = .ok (.iload 4, 2) := by decide +kernel
theorem dX5_survey_191 : decode cX5_survey 191 = .ok (.dup2, 1) := by decide +kernel
theorem dX5_survey_192 : decode cX5_survey 192 = .ok (.iaload, 1) := by decide +kernel
theorem dX5_survey_193 : decode cX5_survey 193 = .ok (.aload_n 0, 1) := by decide +kernel
theorem dX5_survey_194 : decode cX5_survey 194 = .ok (.getfield 9, 3) := by decide +kernel
theorem dX5_survey_197 : decode cX5_survey 197 = .ok (.iload_n 3, 1) := by decide +kernel
theorem dX5_survey_198 : decode cX5_survey 198 = .ok (.bipush 6, 2) := by decide +kernel
theorem dX5_survey_200 : decode cX5_survey 200 = .ok (.invokevirtual 58, 3) := by decide +kernel
theorem dX5_survey_203 : decode cX5_survey 203 = .ok (.iadd, 1) := by decide +kernel
theorem dX5_survey_204 : decode cX5_survey 204 = .ok (.iastore, 1) := by decide +kernel
theorem dX5_survey_205 : decode cX5_survey 205 = .ok (.iinc 3 1, 3) := by decide +kernel
theorem dX5_survey_208 : decode cX5_survey 208 = .ok (.goto (-110), 3) := by decide +kernel
theorem dX5_survey_211 : decode cX5_survey 211 = .ok (.return_, 1) := by decide +kernel
theorem dX5_walk_0 : decode cX5_walk 0 = .ok (.lload_n 1, 1) := by decide +kernel
theorem dX5_walk_1 : decode cX5_walk 1 = .ok (.lconst 0, 1) := by decide +kernel
theorem dX5_walk_2 : decode cX5_walk 2 = .ok (.lcmp, 1) := by decide +kernel
theorem dX5_walk_3 : decode cX5_walk 3 = .ok (.ifCond .lt 18, 3) := by decide +kernel
theorem dX5_walk_6 : decode cX5_walk 6 = .ok (.lload_n 1, 1) := by decide +kernel
theorem dX5_walk_7 : decode cX5_walk 7 = .ok (.aload_n 0, 1) := by decide +kernel
theorem dX5_walk_8 : decode cX5_walk 8 = .ok (.getfield 9, 3) := by decide +kernel
theorem dX5_walk_11 : decode cX5_walk 11 = .ok (.getfield 45, 3) := by decide +kernel
theorem dX5_walk_14 : decode cX5_walk 14 = .ok (.iconst 0, 1) := by decide +kernel
theorem dX5_walk_15 : decode cX5_walk 15 = .ok (.iaload, 1) := by decide +kernel
theorem dX5_walk_16 : decode cX5_walk 16 = .ok (.i2l, 1) := by decide +kernel
theorem dX5_walk_17 : decode cX5_walk 17 = .ok (.lcmp, 1) := by decide +kernel
theorem dX5_walk_18 : decode cX5_walk 18 = .ok (.ifCond .lt 5, 3) := by decide +kernel
theorem dX5_walk_21 : decode cX5_walk 21 = .ok (.iconst 0, 1) := by decide +kernel
theorem dX5_walk_22 : decode cX5_walk 22 = .ok (.ireturn, 1) := by decide +kernel
theorem dX5_walk_23 : decode cX5_walk 23 = .ok (.lload_n 1, 1) := by decide +kernel
theorem dX5_walk_24 : decode cX5_walk 24 = .ok (.l2i, 1) := by decide +kernel
theorem dX5_walk_25 : decode cX5_walk 25 = .ok (.istore_n 3, 1) := by decide +kernel
theorem dX5_walk_26 : decode cX5_walk 26 = .ok (.aload_n 0, 1) := by decide +kernel
theorem dX5_walk_27 : decode cX5_walk 27 = .ok (.iload_n 3, 1) := by decide +kernel
theorem dX5_walk_28 : decode cX5_walk 28 = .ok (.aload_n 0, 1) := by decide +kernel
theorem dX5_walk_29 : decode cX5_walk 29 = .ok (.getfield 38, 3) := by decide +kernel
theorem dX5_walk_32 : decode cX5_walk 32 = .ok (.iconst 3, 1) := by decide +kernel
theorem dX5_walk_33 : decode cX5_walk 33 = .ok (.iaload, 1) := by decide +kernel
theorem dX5_walk_34 : decode cX5_walk 34 = .ok (.invokevirtual 103, 3) := by decide +kernel
theorem dX5_walk_37 : decode cX5_walk 37 = .ok (.istore 4, 2) := by decide +kernel
theorem dX5_walk_39 : decode cX5_walk 39 = .ok (.aload_n 0, 1) := by decide +kernel
theorem dX5_walk_40 : decode cX5_walk 40 = .ok (.getfield 26, 3) := by decide +kernel
theorem dX5_walk_43 : decode cX5_walk 43 = .ok (.iload_n 3, 1) := by decide +kernel
theorem dX5_walk_44 : decode cX5_walk 44 = .ok (.iaload, 1) := by decide +kernel
theorem dX5_walk_45 : decode cX5_walk 45 = .ok (.iconst (-1), 1) := by decide +kernel
theorem dX5_walk_46 : decode cX5_walk 46 = .ok (.if_icmp .eq 9, 3) := by decide +kernel
theorem dX5_walk_49 : decode cX5_walk 49 = .ok (.iload 4, 2) := by decide +kernel
theorem dX5_walk_51 : decode cX5_walk 51 = .ok (.iconst (-1), 1) := by decide +kernel
theorem dX5_walk_52 : decode cX5_walk 52 = .ok (.if_icmp .ne 5, 3) := by decide +kernel
theorem dX5_walk_55 : decode cX5_walk 55 = .ok (.iconst 0, 1) := by decide +kernel
theorem dX5_walk_56 : decode cX5_walk 56 = .ok (.ireturn, 1) := by decide +kernel
theorem dX5_walk_57 : decode cX5_walk 57 = .ok (.aload_n 0, 1) := by decide +kernel
theorem dX5_walk_58 : decode cX5_walk 58 = .ok (.getfield 38, 3) := by decide +kernel
theorem dX5_walk_61 : decode cX5_walk 61 = .ok (.iconst 0, 1) := by decide +kernel
theorem dX5_walk_62 : decode cX5_walk 62 = .ok (.dup2, 1) := by decide +kernel
theorem dX5_walk_63 : decode cX5_walk 63 = .ok (.iaload, 1) := by decide +kernel
theorem dX5_walk_64 : decode cX5_walk 64 = .ok (.aload_n 0, 1) := by decide +kernel
theorem dX5_walk_65 : decode cX5_walk 65 = .ok (.iload_n 3, 1) := by decide +kernel
theorem dX5_walk_66 : decode cX5_walk 66 = .ok (.iconst 1, 1) := by decide +kernel
theorem dX5_walk_67 : decode cX5_walk 67 = .ok (.invokevirtual 96, 3) := by decide +kernel
theorem dX5_walk_70 : decode cX5_walk 70 = .ok (.iadd, 1) := by decide +kernel
theorem dX5_walk_71 : decode cX5_walk 71 = .ok (.iastore, 1) := by decide +kernel
theorem dX5_walk_72 : decode cX5_walk 72 = .ok (.aload_n 0, 1) := by decide +kernel
theorem dX5_walk_73 : decode cX5_walk 73 = .ok (.getfield 38, 3) := by decide +kernel
theorem dX5_walk_76 : decode cX5_walk 76 = .ok (.iconst 1, 1) := by decide +kernel
theorem dX5_walk_77 : decode cX5_walk 77 = .ok (.dup2, 1) := by decide +kernel
theorem dX5_walk_78 : decode cX5_walk 78 = .ok (.iaload, 1) := by decide +kernel
theorem dX5_walk_79 : decode cX5_walk 79 = .ok (.aload_n 0, 1) := by decide +kernel
theorem dX5_walk_80 : decode cX5_walk 80 = .ok (.iload_n 3, 1) := by decide +kernel
theorem dX5_walk_81 : decode cX5_walk 81 = .ok (.invokevirtual 93, 3) := by decide +kernel
theorem dX5_walk_84 : decode cX5_walk 84 = .ok (.iadd, 1) := by decide +kernel
theorem dX5_walk_85 : decode cX5_walk 85 = .ok (.iastore, 1) := by decide +kernel
theorem dX5_walk_86 : decode cX5_walk 86 = .ok (.aload_n 0, 1) := by decide +kernel
theorem dX5_walk_87 : decode cX5_walk 87 = .ok (.getfield 38, 3) := by decide +kernel
theorem dX5_walk_90 : decode cX5_walk 90 = .ok (.iconst 2, 1) := by decide +kernel
theorem dX5_walk_91 : decode cX5_walk 91 = .ok (.dup2, 1) := by decide +kernel
theorem dX5_walk_92 : decode cX5_walk 92 = .ok (.iaload, 1) := by decide +kernel
theorem dX5_walk_93 : decode cX5_walk 93 = .ok (.iconst 1, 1) := by decide +kernel
theorem dX5_walk_94 : decode cX5_walk 94 = .ok (.aload_n 0, 1) := by decide +kernel
theorem dX5_walk_95 : decode cX5_walk 95 = .ok (.getfield 9, 3) := by decide +kernel
theorem dX5_walk_98 : decode cX5_walk 98 = .ok (.iload_n 3, 1) := by decide +kernel
theorem dX5_walk_99 : decode cX5_walk 99 = .ok (.iconst 5, 1) := by decide +kernel
theorem dX5_walk_100 : decode cX5_walk 100 = .ok (.invokevirtual 50, 3) := by decide +kernel
theorem dX5_walk_103 : decode cX5_walk 103 = .ok (.ishl, 1) := by decide +kernel
theorem dX5_walk_104 : decode cX5_walk 104 = .ok (.ior, 1) := by decide +kernel
theorem dX5_walk_105 : decode cX5_walk 105 = .ok (.iastore, 1) := by decide +kernel
theorem dX5_walk_106 : decode cX5_walk 106 = .ok (.aload_n 0, 1) := by decide +kernel
theorem dX5_walk_107 : decode cX5_walk 107 = .ok (.getfield 38, 3) := by decide +kernel
theorem dX5_walk_110 : decode cX5_walk 110 = .ok (.iconst 3, 1) := by decide +kernel
theorem dX5_walk_111 : decode cX5_walk 111 = .ok (.iload 4, 2) := by decide +kernel
theorem dX5_walk_113 : decode cX5_walk 113 = .ok (.iastore, 1) := by decide +kernel
theorem dX5_walk_114 : decode cX5_walk 114 = .ok (.iconst 1, 1) := by decide +kernel
theorem dX5_walk_115 : decode cX5_walk 115 = .ok (.ireturn, 1) := by decide +kernel

