theorem q_4 : Cond.selects RX0 yX0_believed yX0_believed ∈ oh_t := oh_of (i := 4) (by decide +kernel) rfl
theorem q_67 : Cond.initialized RX0 ∈ oh_t := oh_of (i := 67) (by decide +kernel) rfl
theorem q_69 : Cond.initialized RX1 ∈ oh_t := oh_of (i := 69) (by decide +kernel) rfl
theorem q_79 : Cond.initialized RJ9 ∈ oh_t := oh_of (i := 79) (by decide +kernel) rfl
theorem q_105 : Cond.fieldLink RX0 27 "OneHeavyLoad$Land" "parts" "[I" ∈ oh_t := oh_of (i := 105) (by decide +kernel) rfl
theorem q_106 : Cond.fieldLink RX0 30 "OneHeavyLoad$Land" "settings" "[I" ∈ oh_t := oh_of (i := 106) (by decide +kernel) rfl
theorem q_108 : Cond.fieldLink RX1 31 "OneHeavyLoad$Land" "settings" "[I" ∈ oh_t := oh_of (i := 108) (by decide +kernel) rfl
theorem q_111 : Cond.fieldLink RX0 33 "OneHeavyLoad$Land" "trip" "[I" ∈ oh_t := oh_of (i := 111) (by decide +kernel) rfl
theorem q_113 : Cond.fieldLink RX0 36 "OneHeavyLoad$Land" "onWay" "Z" ∈ oh_t := oh_of (i := 113) (by decide +kernel) rfl
theorem q_145 : Cond.fieldLink RX1 15 "OneHeavyLoad$Pack" "axles" "I" ∈ oh_t := oh_of (i := 145) (by decide +kernel) rfl
theorem q_146 : Cond.fieldLink RX1 21 "OneHeavyLoad$Pack" "space" "I" ∈ oh_t := oh_of (i := 146) (by decide +kernel) rfl
theorem q_147 : Cond.fieldLink RX1 28 "OneHeavyLoad$Pack" "fullLength" "I" ∈ oh_t := oh_of (i := 147) (by decide +kernel) rfl
theorem q_149 : Cond.fieldLink RX1 46 "OneHeavyLoad$Pack" "axleLoad" "I" ∈ oh_t := oh_of (i := 149) (by decide +kernel) rfl
theorem q_152 : Cond.fieldLink RX1 49 "OneHeavyLoad$Pack" "sentCoin" "I" ∈ oh_t := oh_of (i := 152) (by decide +kernel) rfl
theorem q_384 : Cond.methodLink RX0 50 yX0_ofBridge ∈ oh_t := oh_of (i := 384) (by decide +kernel) rfl
theorem q_385 : Cond.instanceMethod yX0_ofBridge ∈ oh_t := oh_of (i := 385) (by decide +kernel) rfl
theorem q_386 : Cond.selects RX0 yX0_ofBridge yX0_ofBridge ∈ oh_t := oh_of (i := 386) (by decide +kernel) rfl
theorem q_387 : Cond.code yX0_ofBridge cX0_ofBridge 3 (some .int) ∈ oh_t := oh_of (i := 387) (by decide +kernel) rfl
theorem q_394 : Cond.instanceMethod yX0_bearsAxle ∈ oh_t := oh_of (i := 394) (by decide +kernel) rfl
theorem q_395 : Cond.selects RX0 yX0_bearsAxle yX0_bearsAxle ∈ oh_t := oh_of (i := 395) (by decide +kernel) rfl
theorem q_396 : Cond.code yX0_bearsAxle cX0_bearsAxle 4 (some .int) ∈ oh_t := oh_of (i := 396) (by decide +kernel) rfl
theorem q_397 : Cond.methodLink RX0 60 yX0_believed ∈ oh_t := oh_of (i := 397) (by decide +kernel) rfl
theorem q_399 : Cond.instanceMethod yX0_believed ∈ oh_t := oh_of (i := 399) (by decide +kernel) rfl
theorem q_400 : Cond.code yX0_believed cX0_believed 5 (some .int) ∈ oh_t := oh_of (i := 400) (by decide +kernel) rfl
theorem q_402 : Cond.instanceMethod yX0_isPropped ∈ oh_t := oh_of (i := 402) (by decide +kernel) rfl
theorem q_403 : Cond.selects RX0 yX0_isPropped yX0_isPropped ∈ oh_t := oh_of (i := 403) (by decide +kernel) rfl
theorem q_404 : Cond.code yX0_isPropped cX0_isPropped 2 (some .boolean) ∈ oh_t := oh_of (i := 404) (by decide +kernel) rfl
theorem q_406 : Cond.instanceMethod yX0_bearsAll ∈ oh_t := oh_of (i := 406) (by decide +kernel) rfl
theorem q_407 : Cond.selects RX0 yX0_bearsAll yX0_bearsAll ∈ oh_t := oh_of (i := 407) (by decide +kernel) rfl
theorem q_408 : Cond.code yX0_bearsAll cX0_bearsAll 8 (some .int) ∈ oh_t := oh_of (i := 408) (by decide +kernel) rfl
theorem q_444 : Cond.methodLink RX0 46 yX0_putBridgeColumn ∈ oh_t := oh_of (i := 444) (by decide +kernel) rfl
theorem q_445 : Cond.instanceMethod yX0_putBridgeColumn ∈ oh_t := oh_of (i := 445) (by decide +kernel) rfl
theorem q_446 : Cond.selects RX0 yX0_putBridgeColumn yX0_putBridgeColumn ∈ oh_t := oh_of (i := 446) (by decide +kernel) rfl
theorem q_447 : Cond.code yX0_putBridgeColumn cX0_putBridgeColumn 4 none ∈ oh_t := oh_of (i := 447) (by decide +kernel) rfl
theorem q_684 : Cond.instanceMethod yX0_waggonLength ∈ oh_t := oh_of (i := 684) (by decide +kernel) rfl
theorem q_685 : Cond.selects RX0 yX0_waggonLength yX0_waggonLength ∈ oh_t := oh_of (i := 685) (by decide +kernel) rfl
theorem q_686 : Cond.code yX0_waggonLength cX0_waggonLength 2 (some .int) ∈ oh_t := oh_of (i := 686) (by decide +kernel) rfl
theorem q_687 : Cond.methodLink RX0 54 yX0_ofWaggon ∈ oh_t := oh_of (i := 687) (by decide +kernel) rfl
theorem q_688 : Cond.instanceMethod yX0_ofWaggon ∈ oh_t := oh_of (i := 688) (by decide +kernel) rfl
theorem q_689 : Cond.selects RX0 yX0_ofWaggon yX0_ofWaggon ∈ oh_t := oh_of (i := 689) (by decide +kernel) rfl
theorem q_690 : Cond.code yX0_ofWaggon cX0_ofWaggon 3 (some .int) ∈ oh_t := oh_of (i := 690) (by decide +kernel) rfl
theorem q_707 : Cond.methodLink RX1 9 yX0_ofWaggon ∈ oh_t := oh_of (i := 707) (by decide +kernel) rfl
theorem q_708 : Cond.methodLink RX1 24 yX0_waggonLength ∈ oh_t := oh_of (i := 708) (by decide +kernel) rfl
theorem q_709 : Cond.methodLink RX1 35 yX0_sumOfParts ∈ oh_t := oh_of (i := 709) (by decide +kernel) rfl
theorem q_710 : Cond.instanceMethod yX0_sumOfParts ∈ oh_t := oh_of (i := 710) (by decide +kernel) rfl
theorem q_711 : Cond.selects RX0 yX0_sumOfParts yX0_sumOfParts ∈ oh_t := oh_of (i := 711) (by decide +kernel) rfl
theorem q_712 : Cond.code yX0_sumOfParts cX0_sumOfParts 5 (some .int) ∈ oh_t := oh_of (i := 712) (by decide +kernel) rfl
theorem q_713 : Cond.methodLink RX1 38 yJ9_max_7cf53 ∈ oh_t := oh_of (i := 713) (by decide +kernel) rfl
theorem q_714 : Cond.static yJ9_max_7cf53 ∈ oh_t := oh_of (i := 714) (by decide +kernel) rfl
theorem q_715 : Cond.code yJ9_max_7cf53 cJ9_max_7cf53 2 (some .int) ∈ oh_t := oh_of (i := 715) (by decide +kernel) rfl
theorem q_717 : Cond.static yX6_roundedUp ∈ oh_t := oh_of (i := 717) (by decide +kernel) rfl
theorem q_718 : Cond.code yX6_roundedUp cX6_roundedUp 2 (some .int) ∈ oh_t := oh_of (i := 718) (by decide +kernel) rfl
theorem q_724 : Cond.instanceMethod yX1_strainOn ∈ oh_t := oh_of (i := 724) (by decide +kernel) rfl
theorem q_725 : Cond.selects RX1 yX1_strainOn yX1_strainOn ∈ oh_t := oh_of (i := 725) (by decide +kernel) rfl
theorem q_726 : Cond.code yX1_strainOn cX1_strainOn 2 (some .int) ∈ oh_t := oh_of (i := 726) (by decide +kernel) rfl
theorem q_728 : Cond.static yX6_cut ∈ oh_t := oh_of (i := 728) (by decide +kernel) rfl
theorem q_729 : Cond.code yX6_cut cX6_cut 2 (some .int) ∈ oh_t := oh_of (i := 729) (by decide +kernel) rfl
theorem q_730 : Cond.methodLink RX1 55 yJ9_min_7cf53 ∈ oh_t := oh_of (i := 730) (by decide +kernel) rfl
theorem q_731 : Cond.static yJ9_min_7cf53 ∈ oh_t := oh_of (i := 731) (by decide +kernel) rfl
theorem q_732 : Cond.code yJ9_min_7cf53 cJ9_min_7cf53 2 (some .int) ∈ oh_t := oh_of (i := 732) (by decide +kernel) rfl
theorem q_741 : Cond.methodLink RX1 58 yX0_bearsAxle ∈ oh_t := oh_of (i := 741) (by decide +kernel) rfl
theorem q_742 : Cond.methodLink RX1 61 yX0_ofBridge ∈ oh_t := oh_of (i := 742) (by decide +kernel) rfl
theorem q_743 : Cond.methodLink RX1 64 yX1_strainOn ∈ oh_t := oh_of (i := 743) (by decide +kernel) rfl
theorem q_744 : Cond.methodLink RX1 67 yX0_isPropped ∈ oh_t := oh_of (i := 744) (by decide +kernel) rfl
theorem q_745 : Cond.methodLink RX1 71 yX0_bearsAll ∈ oh_t := oh_of (i := 745) (by decide +kernel) rfl
theorem pdVX0_bearsAll : yX0_bearsAll.cls = RX0 ∧ yX0_bearsAll.cls ≠ "java/lang/invoke/MethodHandle" ∧ yX0_bearsAll.cls ≠ "java/lang/invoke/VarHandle" ∧ (parseMethodDescriptor yX0_bearsAll.desc).map (fun d => d.parameters.length) = some 2 := by decide +kernel
theorem pdVX0_bearsAxle : yX0_bearsAxle.cls = RX0 ∧ yX0_bearsAxle.cls ≠ "java/lang/invoke/MethodHandle" ∧ yX0_bearsAxle.cls ≠ "java/lang/invoke/VarHandle" ∧ (parseMethodDescriptor yX0_bearsAxle.desc).map (fun d => d.parameters.length) = some 1 := by decide +kernel
theorem pdVX0_believed : yX0_believed.cls = RX0 ∧ yX0_believed.cls ≠ "java/lang/invoke/MethodHandle" ∧ yX0_believed.cls ≠ "java/lang/invoke/VarHandle" ∧ (parseMethodDescriptor yX0_believed.desc).map (fun d => d.parameters.length) = some 2 := by decide +kernel
theorem pdVX0_isPropped : yX0_isPropped.cls = RX0 ∧ yX0_isPropped.cls ≠ "java/lang/invoke/MethodHandle" ∧ yX0_isPropped.cls ≠ "java/lang/invoke/VarHandle" ∧ (parseMethodDescriptor yX0_isPropped.desc).map (fun d => d.parameters.length) = some 1 := by decide +kernel
theorem pdVX0_ofBridge : yX0_ofBridge.cls = RX0 ∧ yX0_ofBridge.cls ≠ "java/lang/invoke/MethodHandle" ∧ yX0_ofBridge.cls ≠ "java/lang/invoke/VarHandle" ∧ (parseMethodDescriptor yX0_ofBridge.desc).map (fun d => d.parameters.length) = some 2 := by decide +kernel
theorem pdVX0_ofWaggon : yX0_ofWaggon.cls = RX0 ∧ yX0_ofWaggon.cls ≠ "java/lang/invoke/MethodHandle" ∧ yX0_ofWaggon.cls ≠ "java/lang/invoke/VarHandle" ∧ (parseMethodDescriptor yX0_ofWaggon.desc).map (fun d => d.parameters.length) = some 2 := by decide +kernel
theorem pdVX0_putBridgeColumn : yX0_putBridgeColumn.cls = RX0 ∧ yX0_putBridgeColumn.cls ≠ "java/lang/invoke/MethodHandle" ∧ yX0_putBridgeColumn.cls ≠ "java/lang/invoke/VarHandle" ∧ (parseMethodDescriptor yX0_putBridgeColumn.desc).map (fun d => d.parameters.length) = some 3 := by decide +kernel
theorem pdVX0_sumOfParts : yX0_sumOfParts.cls = RX0 ∧ yX0_sumOfParts.cls ≠ "java/lang/invoke/MethodHandle" ∧ yX0_sumOfParts.cls ≠ "java/lang/invoke/VarHandle" ∧ (parseMethodDescriptor yX0_sumOfParts.desc).map (fun d => d.parameters.length) = some 2 := by decide +kernel
theorem pdVX0_waggonLength : yX0_waggonLength.cls = RX0 ∧ yX0_waggonLength.cls ≠ "java/lang/invoke/MethodHandle" ∧ yX0_waggonLength.cls ≠ "java/lang/invoke/VarHandle" ∧ (parseMethodDescriptor yX0_waggonLength.desc).map (fun d => d.parameters.length) = some 1 := by decide +kernel
theorem pdVX1_strainOn : yX1_strainOn.cls = RX1 ∧ yX1_strainOn.cls ≠ "java/lang/invoke/MethodHandle" ∧ yX1_strainOn.cls ≠ "java/lang/invoke/VarHandle" ∧ (parseMethodDescriptor yX1_strainOn.desc).map (fun d => d.parameters.length) = some 1 := by decide +kernel
theorem pdX6_cut : yX6_cut.cls ≠ "java/lang/invoke/MethodHandle" ∧ yX6_cut.cls ≠ "java/lang/invoke/VarHandle" ∧ (parseMethodDescriptor yX6_cut.desc).map (fun d => d.parameters.length) = some 2 := by decide +kernel
theorem pdX6_roundedUp : yX6_roundedUp.cls ≠ "java/lang/invoke/MethodHandle" ∧ yX6_roundedUp.cls ≠ "java/lang/invoke/VarHandle" ∧ (parseMethodDescriptor yX6_roundedUp.desc).map (fun d => d.parameters.length) = some 2 := by decide +kernel
theorem dX0_addBridge_0 : decode cX0_addBridge 0 = .ok (.aload_n 0, 1) := by decide +kernel
theorem dX0_addBridge_1 : decode cX0_addBridge 1 = .ok (.getfield 13, 3) := by decide +kernel
theorem dX0_addBridge_4 : decode cX0_addBridge 4 = .ok (.iconst 1, 1) := by decide +kernel
theorem dX0_addBridge_5 : decode cX0_addBridge 5 = .ok (.iaload, 1) := by decide +kernel
theorem dX0_addBridge_6 : decode cX0_addBridge 6 = .ok (.bipush 10, 2) := by decide +kernel
theorem dX0_addBridge_8 : decode cX0_addBridge 8 = .ok (.imul, 1) := by decide +kernel
theorem dX0_addBridge_9 : decode cX0_addBridge 9 = .ok (.istore 6, 2) := by decide +kernel
theorem dX0_addBridge_11 : decode cX0_addBridge 11 = .ok (.aload_n 0, 1) := by decide +kernel
theorem dX0_addBridge_12 : decode cX0_addBridge 12 = .ok (.getfield 21, 3) := by decide +kernel
theorem dX0_addBridge_15 : decode cX0_addBridge 15 = .ok (.iload 6, 2) := by decide +kernel
theorem dX0_addBridge_17 : decode cX0_addBridge 17 = .ok (.iconst 0, 1) := by decide +kernel
theorem dX0_addBridge_18 : decode cX0_addBridge 18 = .ok (.iadd, 1) := by decide +kernel
theorem dX0_addBridge_19 : decode cX0_addBridge 19 = .ok (.iload_n 1, 1) := by decide +kernel
theorem dX0_addBridge_20 : decode cX0_addBridge 20 = .ok (.iastore, 1) := by decide +kernel
theorem dX0_addBridge_21 : decode cX0_addBridge 21 = .ok (.aload_n 0, 1) := by decide +kernel
theorem dX0_addBridge_22 : decode cX0_addBridge 22 = .ok (.getfield 21, 3) := by decide +kernel
theorem dX0_addBridge_25 : decode cX0_addBridge 25 = .ok (.iload 6, 2) := by decide +kernel
theorem dX0_addBridge_27 : decode cX0_addBridge 27 = .ok (.iconst 1, 1) := by decide +kernel
theorem dX0_addBridge_28 : decode cX0_addBridge 28 = .ok (.iadd, 1) := by decide +kernel
theorem dX0_addBridge_29 : decode cX0_addBridge 29 = .ok (.iload_n 2, 1) := by decide +kernel
theorem dX0_addBridge_30 : decode cX0_addBridge 30 = .ok (.iastore, 1) := by decide +kernel
theorem dX0_addBridge_31 : decode cX0_addBridge 31 = .ok (.aload_n 0, 1) := by decide +kernel
theorem dX0_addBridge_32 : decode cX0_addBridge 32 = .ok (.getfield 21, 3) := by decide +kernel
theorem dX0_addBridge_35 : decode cX0_addBridge 35 = .ok (.iload 6, 2) := by decide +kernel
theorem dX0_addBridge_37 : decode cX0_addBridge 37 = .ok (.iconst 2, 1) := by decide +kernel
theorem dX0_addBridge_38 : decode cX0_addBridge 38 = .ok (.iadd, 1) := by decide +kernel
theorem dX0_addBridge_39 : decode cX0_addBridge 39 = .ok (.iload_n 3, 1) := by decide +kernel
theorem dX0_addBridge_40 : decode cX0_addBridge 40 = .ok (.iastore, 1) := by decide +kernel
theorem dX0_addBridge_41 : decode cX0_addBridge 41 = .ok (.aload_n 0, 1) := by decide +kernel
theorem dX0_addBridge_42 : decode cX0_addBridge 42 = .ok (.getfield 21, 3) := by decide +kernel
theorem dX0_addBridge_45 : decode cX0_addBridge 45 = .ok (.iload 6, 2) := by decide +kernel
theorem dX0_addBridge_47 : decode cX0_addBridge 47 = .ok (.iconst 3, 1) := by decide +kernel
theorem dX0_addBridge_48 : decode cX0_addBridge 48 = .ok (.iadd, 1) := by decide +kernel
theorem dX0_addBridge_49 : decode cX0_addBridge 49 = .ok (.iload 4, 2) := by decide +kernel
theorem dX0_addBridge_51 : decode cX0_addBridge 51 = .ok (.iastore, 1) := by decide +kernel
theorem dX0_addBridge_52 : decode cX0_addBridge 52 = .ok (.aload_n 0, 1) := by decide +kernel
theorem dX0_addBridge_53 : decode cX0_addBridge 53 = .ok (.getfield 21, 3) := by decide +kernel
theorem dX0_addBridge_56 : decode cX0_addBridge 56 = .ok (.iload 6, 2) := by decide +kernel
theorem dX0_addBridge_58 : decode cX0_addBridge 58 = .ok (.iconst 4, 1) := by decide +kernel
theorem dX0_addBridge_59 : decode cX0_addBridge 59 = .ok (.iadd, 1) := by decide +kernel
theorem dX0_addBridge_60 : decode cX0_addBridge 60 = .ok (.iload 5, 2) := by decide +kernel
theorem dX0_addBridge_62 : decode cX0_addBridge 62 = .ok (.iastore, 1) := by decide +kernel
theorem dX0_addBridge_63 : decode cX0_addBridge 63 = .ok (.iconst 5, 1) := by decide +kernel
theorem dX0_addBridge_64 : decode cX0_addBridge 64 = .ok (.istore 7, 2) := by decide +kernel
theorem dX0_addBridge_66 : decode cX0_addBridge 66 = .ok (.iload 7, 2) := by decide +kernel
theorem dX0_addBridge_68 : decode cX0_addBridge 68 = .ok (.bipush 10, 2) := by decide +kernel
theorem dX0_addBridge_70 : decode cX0_addBridge 70 = .ok (.if_icmp .ge 20, 3) := by decide +kernel
theorem dX0_addBridge_73 : decode cX0_addBridge 73 = .ok (.aload_n 0, 1) := by decide +kernel
theorem dX0_addBridge_74 : decode cX0_addBridge 74 = .ok (.getfield 21, 3) := by decide +kernel
theorem dX0_addBridge_77 : decode cX0_addBridge 77 = .ok (.iload 6, 2) := by decide +kernel
theorem dX0_addBridge_79 : decode cX0_addBridge 79 = .ok (.iload 7, 2) := by decide +kernel
theorem dX0_addBridge_81 : decode cX0_addBridge 81 = .ok (.iadd, 1) := by decide +kernel
theorem dX0_addBridge_82 : decode cX0_addBridge 82 = .ok (.iconst 0, 1) := by decide +kernel
theorem dX0_addBridge_83 : decode cX0_addBridge 83 = .ok (.iastore, 1) := by decide +kernel
theorem dX0_addBridge_84 : decode cX0_addBridge 84 = .ok (.iinc 7 1, 3) := by decide +kernel
theorem dX0_addBridge_87 : decode cX0_addBridge 87 = .ok (.goto (-21), 3) := by decide +kernel
theorem dX0_addBridge_90 : decode cX0_addBridge 90 = .ok (.aload_n 0, 1) := by decide +kernel
theorem dX0_addBridge_91 : decode cX0_addBridge 91 = .ok (.getfield 13, 3) := by decide +kernel
theorem dX0_addBridge_94 : decode cX0_addBridge 94 = .ok (.iconst 1, 1) := by decide +kernel
theorem dX0_addBridge_95 : decode cX0_addBridge 95 = .ok (.dup2, 1) := by decide +kernel
theorem dX0_addBridge_96 : decode cX0_addBridge 96 = .ok (.iaload, 1) := by decide +kernel
theorem dX0_addBridge_97 : decode cX0_addBridge 97 = .ok (.dup_x2, 1) := by decide +kernel
theorem dX0_addBridge_98 : decode cX0_addBridge 98 = .ok (.iconst 1, 1) := by decide +kernel
theorem dX0_addBridge_99 : decode cX0_addBridge 99 = .ok (.iadd, 1) := by decide +kernel
theorem dX0_addBridge_100 : decode cX0_addBridge 100 = .ok (.iastore, 1) := by decide +kernel
theorem dX0_addBridge_101 : decode cX0_addBridge 101 = .ok (.ireturn, 1) := by decide +kernel
theorem dX0_addPart_0 : decode cX0_addPart 0 = .ok (.aload_n 0, 1) := by decide +kernel
theorem dX0_addPart_1 : decode cX0_addPart 1 = .ok (.getfield 13, 3) := by decide +kernel
theorem dX0_addPart_4 : decode cX0_addPart 4 = .ok (.iconst 3, 1) := by decide +kernel
theorem dX0_addPart_5 : decode cX0_addPart 5 = .ok (.iaload, 1) := by decide +kernel
theorem dX0_addPart_6 : decode cX0_addPart 6 = .ok (.iconst 2, 1) := by decide +kernel
theorem dX0_addPart_7 : decode cX0_addPart 7 = .ok (.imul, 1) := by decide +kernel
theorem dX0_addPart_8 : decode cX0_addPart 8 = .ok (.istore_n 3, 1) := by decide +kernel
theorem dX0_addPart_9 : decode cX0_addPart 9 = .ok (.aload_n 0, 1) := by decide +kernel
theorem dX0_addPart_10 : decode cX0_addPart 10 = .ok (.getfield 27, 3) := by decide +kernel
theorem dX0_addPart_13 : decode cX0_addPart 13 = .ok (.iload_n 3, 1) := by decide +kernel
theorem dX0_addPart_14 : decode cX0_addPart 14 = .ok (.iconst 0, 1) := by decide +kernel
theorem dX0_addPart_15 : decode cX0_addPart 15 = .ok (.iadd, 1) := by decide +kernel
theorem dX0_addPart_16 : decode cX0_addPart 16 = .ok (.iload_n 1, 1) := by decide +kernel
theorem dX0_addPart_17 : decode cX0_addPart 17 = .ok (.iastore, 1) := by decide +kernel
theorem dX0_addPart_18 : decode cX0_addPart 18 = .ok (.aload_n 0, 1) := by decide +kernel
theorem dX0_addPart_19 : decode cX0_addPart 19 = .ok (.getfield 27, 3) := by decide +kernel
theorem dX0_addPart_22 : decode cX0_addPart 22 = .ok (.iload_n 3, 1) := by decide +kernel
theorem dX0_addPart_23 : decode cX0_addPart 23 = .ok (.iconst 1, 1) := by decide +kernel
theorem dX0_addPart_24 : decode cX0_addPart 24 = .ok (.iadd, 1) := by decide +kernel
theorem dX0_addPart_25 : decode cX0_addPart 25 = .ok (.iload_n 2, 1) := by decide +kernel
theorem dX0_addPart_26 : decode cX0_addPart 26 = .ok (.iastore, 1) := by decide +kernel
theorem dX0_addPart_27 : decode cX0_addPart 27 = .ok (.aload_n 0, 1) := by decide +kernel
theorem dX0_addPart_28 : decode cX0_addPart 28 = .ok (.getfield 13, 3) := by decide +kernel
theorem dX0_addPart_31 : decode cX0_addPart 31 = .ok (.iconst 3, 1) := by decide +kernel
theorem dX0_addPart_32 : decode cX0_addPart 32 = .ok (.dup2, 1) := by decide +kernel
theorem dX0_addPart_33 : decode cX0_addPart 33 = .ok (.iaload, 1) := by decide +kernel
theorem dX0_addPart_34 : decode cX0_addPart 34 = .ok (.dup_x2, 1) := by decide +kernel
theorem dX0_addPart_35 : decode cX0_addPart 35 = .ok (.iconst 1, 1) := by decide +kernel
theorem dX0_addPart_36 : decode cX0_addPart 36 = .ok (.iadd, 1) := by decide +kernel
theorem dX0_addPart_37 : decode cX0_addPart 37 = .ok (.iastore, 1) := by decide +kernel
theorem dX0_addPart_38 : decode cX0_addPart 38 = .ok (.ireturn, 1) := by decide +kernel
theorem dX0_addRoad_0 : decode cX0_addRoad 0 = .ok (.aload_n 0, 1) := by decide +kernel
theorem dX0_addRoad_1 : decode cX0_addRoad 1 = .ok (.getfield 13, 3) := by decide +kernel
theorem dX0_addRoad_4 : decode cX0_addRoad 4 = .ok (.iconst 0, 1) := by decide +kernel
theorem dX0_addRoad_5 : decode cX0_addRoad 5 = .ok (.iaload, 1) := by decide +kernel
theorem dX0_addRoad_6 : decode cX0_addRoad 6 = .ok (.bipush 7, 2) := by decide +kernel
theorem dX0_addRoad_8 : decode cX0_addRoad 8 = .ok (.imul, 1) := by decide +kernel
theorem dX0_addRoad_9 : decode cX0_addRoad 9 = .ok (.istore 7, 2) := by decide +kernel
theorem dX0_addRoad_11 : decode cX0_addRoad 11 = .ok (.aload_n 0, 1) := by decide +kernel
theorem dX0_addRoad_12 : decode cX0_addRoad 12 = .ok (.getfield 18, 3) := by decide +kernel
theorem dX0_addRoad_15 : decode cX0_addRoad 15 = .ok (.iload 7, 2) := by decide +kernel
theorem dX0_addRoad_17 : decode cX0_addRoad 17 = .ok (.iconst 0, 1) := by decide +kernel
theorem dX0_addRoad_18 : decode cX0_addRoad 18 = .ok (.iadd, 1) := by decide +kernel
theorem dX0_addRoad_19 : decode cX0_addRoad 19 = .ok (.iload_n 1, 1) := by decide +kernel
theorem dX0_addRoad_20 : decode cX0_addRoad 20 = .ok (.iastore, 1) := by decide +kernel
theorem dX0_addRoad_21 : decode cX0_addRoad 21 = .ok (.aload_n 0, 1) := by decide +kernel
theorem dX0_addRoad_22 : decode cX0_addRoad 22 = .ok (.getfield 18, 3) := by decide +kernel
theorem dX0_addRoad_25 : decode cX0_addRoad 25 = .ok (.iload 7, 2) := by decide +kernel
theorem dX0_addRoad_27 : decode cX0_addRoad 27 = .ok (.iconst 1, 1) := by decide +kernel
theorem dX0_addRoad_28 : decode cX0_addRoad 28 = .ok (.iadd, 1) := by decide +kernel
theorem dX0_addRoad_29 : decode cX0_addRoad 29 = .ok (.iload_n 2, 1) := by decide +kernel
theorem dX0_addRoad_30 : decode cX0_addRoad 30 = .ok (.iastore, 1) := by decide +kernel
theorem dX0_addRoad_31 : decode cX0_addRoad 31 = .ok (.aload_n 0, 1) := by decide +kernel
theorem dX0_addRoad_32 : decode cX0_addRoad 32 = .ok (.getfield 18, 3) := by decide +kernel
theorem dX0_addRoad_35 : decode cX0_addRoad 35 = .ok (.iload 7, 2) := by decide +kernel
theorem dX0_addRoad_37 : decode cX0_addRoad 37 = .ok (.iconst 2, 1) := by decide +kernel
theorem dX0_addRoad_38 : decode cX0_addRoad 38 = .ok (.iadd, 1) := by decide +kernel
theorem dX0_addRoad_39 : decode cX0_addRoad 39 = .ok (.iload_n 3, 1) := by decide +kernel
theorem dX0_addRoad_40 : decode cX0_addRoad 40 = .ok (.iastore, 1) := by decide +kernel
theorem dX0_addRoad_41 : decode cX0_addRoad 41 = .ok (.aload_n 0, 1) := by decide +kernel
theorem dX0_addRoad_42 : decode cX0_addRoad 42 = .ok (.getfield 18, 3) := by decide +kernel
theorem dX0_addRoad_45 : decode cX0_addRoad 45 = .ok (.iload 7, 2) := by decide +kernel
theorem dX0_addRoad_47 : decode cX0_addRoad 47 = .ok (.iconst 3, 1) := by decide +kernel
theorem dX0_addRoad_48 : decode cX0_addRoad 48 = .ok (.iadd, 1) := by decide +kernel
theorem dX0_addRoad_49 : decode cX0_addRoad 49 = .ok (.iload 4, 2) := by decide +kernel
theorem dX0_addRoad_51 : decode cX0_addRoad 51 = .ok (.iastore, 1) := by decide +kernel
theorem dX0_addRoad_52 : decode cX0_addRoad 52 = .ok (.aload_n 0, 1) := by decide +kernel
theorem dX0_addRoad_53 : decode cX0_addRoad 53 = .ok (.getfield 18, 3) := by decide +kernel
theorem dX0_addRoad_56 : decode cX0_addRoad 56 = .ok (.iload 7, 2) := by decide +kernel
theorem dX0_addRoad_58 : decode cX0_addRoad 58 = .ok (.iconst 4, 1) := by decide +kernel
theorem dX0_addRoad_59 : decode cX0_addRoad 59 = .ok (.iadd, 1) := by decide +kernel
theorem dX0_addRoad_60 : decode cX0_addRoad 60 = .ok (.iload 5, 2) := by decide +kernel
theorem dX0_addRoad_62 : decode cX0_addRoad 62 = .ok (.iastore, 1) := by decide +kernel
theorem dX0_addRoad_63 : decode cX0_addRoad 63 = .ok (.aload_n 0, 1) := by decide +kernel
theorem dX0_addRoad_64 : decode cX0_addRoad 64 = .ok (.getfield 18, 3) := by decide +kernel
theorem dX0_addRoad_67 : decode cX0_addRoad 67 = .ok (.iload 7, 2) := by decide +kernel
theorem dX0_addRoad_69 : decode cX0_addRoad 69 = .ok (.iconst 5, 1) := by decide +kernel
theorem dX0_addRoad_70 : decode cX0_addRoad 70 = .ok (.iadd, 1) := by decide +kernel
theorem dX0_addRoad_71 : decode cX0_addRoad 71 = .ok (.iload 6, 2) := by decide +kernel
theorem dX0_addRoad_73 : decode cX0_addRoad 73 = .ok (.iastore, 1) := by decide +kernel
theorem dX0_addRoad_74 : decode cX0_addRoad 74 = .ok (.aload_n 0, 1) := by decide +kernel
theorem dX0_addRoad_75 : decode cX0_addRoad 75 = .ok (.getfield 18, 3) := by decide +kernel
theorem dX0_addRoad_78 : decode cX0_addRoad 78 = .ok (.iload 7, 2) := by decide +kernel
theorem dX0_addRoad_80 : decode cX0_addRoad 80 = .ok (.bipush 6, 2) := by decide +kernel
theorem dX0_addRoad_82 : decode cX0_addRoad 82 = .ok (.iadd, 1) := by decide +kernel
theorem dX0_addRoad_83 : decode cX0_addRoad 83 = .ok (.iconst 0, 1) := by decide +kernel
theorem dX0_addRoad_84 : decode cX0_addRoad 84 = .ok (.iastore, 1) := by decide +kernel
theorem dX0_addRoad_85 : decode cX0_addRoad 85 = .ok (.aload_n 0, 1) := by decide +kernel
theorem dX0_addRoad_86 : decode cX0_addRoad 86 = .ok (.getfield 13, 3) := by decide +kernel
theorem dX0_addRoad_89 : decode cX0_addRoad 89 = .ok (.iconst 0, 1) := by decide +kernel
theorem dX0_addRoad_90 : decode cX0_addRoad 90 = .ok (.dup2, 1) := by decide +kernel
theorem dX0_addRoad_91 : decode cX0_addRoad 91 = .ok (.iaload, 1) := by decide +kernel
theorem dX0_addRoad_92 : decode cX0_addRoad 92 = .ok (.dup_x2, 1) := by decide +kernel
theorem dX0_addRoad_93 : decode cX0_addRoad 93 = .ok (.iconst 1, 1) := by decide +kernel
theorem dX0_addRoad_94 : decode cX0_addRoad 94 = .ok (.iadd, 1) := by decide +kernel
theorem dX0_addRoad_95 : decode cX0_addRoad 95 = .ok (.iastore, 1) := by decide +kernel
theorem dX0_addRoad_96 : decode cX0_addRoad 96 = .ok (.ireturn, 1) := by decide +kernel
theorem dX0_addWaggon_0 : decode cX0_addWaggon 0 = .ok (.aload_n 0, 1) := by decide +kernel
theorem dX0_addWaggon_1 : decode cX0_addWaggon 1 = .ok (.getfield 13, 3) := by decide +kernel
theorem dX0_addWaggon_4 : decode cX0_addWaggon 4 = .ok (.iconst 2, 1) := by decide +kernel
theorem dX0_addWaggon_5 : decode cX0_addWaggon 5 = .ok (.iaload, 1) := by decide +kernel
theorem dX0_addWaggon_6 : decode cX0_addWaggon 6 = .ok (.iconst 3, 1) := by decide +kernel
theorem dX0_addWaggon_7 : decode cX0_addWaggon 7 = .ok (.imul, 1) := by decide +kernel
theorem dX0_addWaggon_8 : decode cX0_addWaggon 8 = .ok (.istore 4, 2) := by decide +kernel
theorem dX0_addWaggon_10 : decode cX0_addWaggon 10 = .ok (.aload_n 0, 1) := by decide +kernel
theorem dX0_addWaggon_11 : decode cX0_addWaggon 11 = .ok (.getfield 24, 3) := by decide +kernel
theorem dX0_addWaggon_14 : decode cX0_addWaggon 14 = .ok (.iload 4, 2) := by decide +kernel
theorem dX0_addWaggon_16 : decode cX0_addWaggon 16 = .ok (.iconst 0, 1) := by decide +kernel
theorem dX0_addWaggon_17 : decode cX0_addWaggon 17 = .ok (.iadd, 1) := by decide +kernel
theorem dX0_addWaggon_18 : decode cX0_addWaggon 18 = .ok (.iload_n 1, 1) := by decide +kernel
theorem dX0_addWaggon_19 : decode cX0_addWaggon 19 = .ok (.iastore, 1) := by decide +kernel
theorem dX0_addWaggon_20 : decode cX0_addWaggon 20 = .ok (.aload_n 0, 1) := by decide +kernel
theorem dX0_addWaggon_21 : decode cX0_addWaggon 21 = .ok (.getfield 24, 3) := by decide +kernel
theorem dX0_addWaggon_24 : decode cX0_addWaggon 24 = .ok (.iload 4, 2) := by decide +kernel
theorem dX0_addWaggon_26 : decode cX0_addWaggon 26 = .ok (.iconst 1, 1) := by decide +kernel
theorem dX0_addWaggon_27 : decode cX0_addWaggon 27 = .ok (.iadd, 1) := by decide +kernel
theorem dX0_addWaggon_28 : decode cX0_addWaggon 28 = .ok (.iload_n 2, 1) := by decide +kernel
theorem dX0_addWaggon_29 : decode cX0_addWaggon 29 = .ok (.iastore, 1) := by decide +kernel
theorem dX0_addWaggon_30 : decode cX0_addWaggon 30 = .ok (.aload_n 0, 1) := by decide +kernel
theorem dX0_addWaggon_31 : decode cX0_addWaggon 31 = .ok (.getfield 24, 3) := by decide +kernel
theorem dX0_addWaggon_34 : decode cX0_addWaggon 34 = .ok (.iload 4, 2) := by decide +kernel
theorem dX0_addWaggon_36 : decode cX0_addWaggon 36 = .ok (.iconst 2, 1) := by decide +kernel
theorem dX0_addWaggon_37 : decode cX0_addWaggon 37 = .ok (.iadd, 1) := by decide +kernel
theorem dX0_addWaggon_38 : decode cX0_addWaggon 38 = .ok (.iload_n 3, 1) := by decide +kernel
theorem dX0_addWaggon_39 : decode cX0_addWaggon 39 = .ok (.iastore, 1) := by decide +kernel
theorem dX0_addWaggon_40 : decode cX0_addWaggon 40 = .ok (.aload_n 0, 1) := by decide +kernel
theorem dX0_addWaggon_41 : decode cX0_addWaggon 41 = .ok (.getfield 13, 3) := by decide +kernel
theorem dX0_addWaggon_44 : decode cX0_addWaggon 44 = .ok (.iconst 2, 1) := by decide +kernel
theorem dX0_addWaggon_45 : decode cX0_addWaggon 45 = .ok (.dup2, 1) := by decide +kernel
theorem dX0_addWaggon_46 : decode cX0_addWaggon 46 = .ok (.iaload, 1) := by decide +kernel
theorem dX0_addWaggon_47 : decode cX0_addWaggon 47 = .ok (.dup_x2, 1) := by decide +kernel
theorem dX0_addWaggon_48 : decode cX0_addWaggon 48 = .ok (.iconst 1, 1) := by decide +kernel
theorem dX0_addWaggon_49 : decode cX0_addWaggon 49 = .ok (.iadd, 1) := by decide +kernel
theorem dX0_addWaggon_50 : decode cX0_addWaggon 50 = .ok (.iastore, 1) := by decide +kernel
theorem dX0_addWaggon_51 : decode cX0_addWaggon 51 = .ok (.ireturn, 1) := by decide +kernel
theorem dX0_bearsAll_0 : decode cX0_bearsAll 0 = .ok (.iload_n 1, 1) := by decide +kernel
theorem dX0_bearsAll_1 : decode cX0_bearsAll 1 = .ok (.bipush 10, 2) := by decide +kernel
theorem dX0_bearsAll_3 : decode cX0_bearsAll 3 = .ok (.imul, 1) := by decide +kernel
theorem dX0_bearsAll_4 : decode cX0_bearsAll 4 = .ok (.istore_n 3, 1) := by decide +kernel
theorem dX0_bearsAll_5 : decode cX0_bearsAll 5 = .ok (.aload_n 0, 1) := by decide +kernel
theorem dX0_bearsAll_6 : decode cX0_bearsAll 6 = .ok (.getfield 21, 3) := by decide +kernel
theorem dX0_bearsAll_9 : decode cX0_bearsAll 9 = .ok (.iload_n 3, 1) := by decide +kernel
theorem dX0_bearsAll_10 : decode cX0_bearsAll 10 = .ok (.iconst 1, 1) := by decide +kernel
theorem dX0_bearsAll_11 : decode cX0_bearsAll 11 = .ok (.iadd, 1) := by decide +kernel
theorem dX0_bearsAll_12 : decode cX0_bearsAll 12 = .ok (.iaload, 1) := by decide +kernel
theorem dX0_bearsAll_13 : decode cX0_bearsAll 13 = .ok (.istore 4, 2) := by decide +kernel
theorem dX0_bearsAll_15 : decode cX0_bearsAll 15 = .ok (.aload_n 0, 1) := by decide +kernel
theorem dX0_bearsAll_16 : decode cX0_bearsAll 16 = .ok (.getfield 21, 3) := by decide +kernel
theorem dX0_bearsAll_19 : decode cX0_bearsAll 19 = .ok (.iload_n 3, 1) := by decide +kernel
theorem dX0_bearsAll_20 : decode cX0_bearsAll 20 = .ok (.iconst 4, 1) := by decide +kernel
theorem dX0_bearsAll_21 : decode cX0_bearsAll 21 = .ok (.iadd, 1) := by decide +kernel
theorem dX0_bearsAll_22 : decode cX0_bearsAll 22 = .ok (.iaload, 1) := by decide +kernel
theorem dX0_bearsAll_23 : decode cX0_bearsAll 23 = .ok (.istore 5, 2) := by decide +kernel
theorem dX0_bearsAll_25 : decode cX0_bearsAll 25 = .ok (.iload 4, 2) := by decide +kernel
theorem dX0_bearsAll_27 : decode cX0_bearsAll 27 = .ok (.iconst 1, 1) := by decide +kernel
theorem dX0_bearsAll_28 : decode cX0_bearsAll 28 = .ok (.if_icmp .eq 9, 3) := by decide +kernel
theorem dX0_bearsAll_31 : decode cX0_bearsAll 31 = .ok (.iload 4, 2) := by decide +kernel
theorem dX0_bearsAll_33 : decode cX0_bearsAll 33 = .ok (.iconst 2, 1) := by decide +kernel
theorem dX0_bearsAll_34 : decode cX0_bearsAll 34 = .ok (.if_icmp .ne 7, 3) := by decide +kernel
theorem dX0_bearsAll_37 : decode cX0_bearsAll 37 = .ok (.iconst 1, 1) := by decide +kernel
theorem dX0_bearsAll_38 : decode cX0_bearsAll 38 = .ok (.goto 4, 3) := by decide +kernel
theorem dX0_bearsAll_41 : decode cX0_bearsAll 41 = .ok (.iconst 0, 1) := by decide +kernel
theorem dX0_bearsAll_42 : decode cX0_bearsAll 42 = .ok (.istore 6, 2) := by decide +kernel
theorem dX0_bearsAll_44 : decode cX0_bearsAll 44 = .ok (.aload_n 0, 1) := by decide +kernel
theorem dX0_bearsAll_45 : decode cX0_bearsAll 45 = .ok (.iload_n 3, 1) := by decide +kernel
theorem dX0_bearsAll_46 : decode cX0_bearsAll 46 = .ok (.iload 6, 2) := by decide +kernel
theorem dX0_bearsAll_48 : decode cX0_bearsAll 48 = .ok (.ifCond .eq 14, 3) := by decide +kernel
theorem dX0_bearsAll_51 : decode cX0_bearsAll 51 = .ok (.iload 5, 2) := by decide +kernel
theorem dX0_bearsAll_53 : decode cX0_bearsAll 53 = .ok (.iload 5, 2) := by decide +kernel
theorem dX0_bearsAll_55 : decode cX0_bearsAll 55 = .ok (.bipush 10, 2) := by decide +kernel
theorem dX0_bearsAll_57 : decode cX0_bearsAll 57 = .ok (.idiv, 1) := by decide +kernel
theorem dX0_bearsAll_58 : decode cX0_bearsAll 58 = .ok (.iadd, 1) := by decide +kernel
theorem dX0_bearsAll_59 : decode cX0_bearsAll 59 = .ok (.goto 5, 3) := by decide +kernel
theorem dX0_bearsAll_62 : decode cX0_bearsAll 62 = .ok (.iload 5, 2) := by decide +kernel
theorem dX0_bearsAll_64 : decode cX0_bearsAll 64 = .ok (.invokevirtual 60, 3) := by decide +kernel
theorem dX0_bearsAll_67 : decode cX0_bearsAll 67 = .ok (.istore 7, 2) := by decide +kernel
theorem dX0_bearsAll_69 : decode cX0_bearsAll 69 = .ok (.iload_n 2, 1) := by decide +kernel
theorem dX0_bearsAll_70 : decode cX0_bearsAll 70 = .ok (.ifCond .eq 29, 3) := by decide +kernel
theorem dX0_bearsAll_73 : decode cX0_bearsAll 73 = .ok (.aload_n 0, 1) := by decide +kernel
theorem dX0_bearsAll_74 : decode cX0_bearsAll 74 = .ok (.getfield 21, 3) := by decide +kernel
theorem dX0_bearsAll_77 : decode cX0_bearsAll 77 = .ok (.iload_n 3, 1) := by decide +kernel
theorem dX0_bearsAll_78 : decode cX0_bearsAll 78 = .ok (.bipush 8, 2) := by decide +kernel
theorem dX0_bearsAll_80 : decode cX0_bearsAll 80 = .ok (.iadd, 1) := by decide +kernel
theorem dX0_bearsAll_81 : decode cX0_bearsAll 81 = .ok (.iaload, 1) := by decide +kernel
theorem dX0_bearsAll_82 : decode cX0_bearsAll 82 = .ok (.ifCond .ne 17, 3) := by decide +kernel
theorem dX0_bearsAll_85 : decode cX0_bearsAll 85 = .ok (.iload 7, 2) := by decide +kernel
theorem dX0_bearsAll_87 : decode cX0_bearsAll 87 = .ok (.aload_n 0, 1) := by decide +kernel
theorem dX0_bearsAll_88 : decode cX0_bearsAll 88 = .ok (.getfield 21, 3) := by decide +kernel
theorem dX0_bearsAll_91 : decode cX0_bearsAll 91 = .ok (.iload_n 3, 1) := by decide +kernel
theorem dX0_bearsAll_92 : decode cX0_bearsAll 92 = .ok (.iconst 5, 1) := by decide +kernel
theorem dX0_bearsAll_93 : decode cX0_bearsAll 93 = .ok (.iadd, 1) := by decide +kernel
theorem dX0_bearsAll_94 : decode cX0_bearsAll 94 = .ok (.iaload, 1) := by decide +kernel
theorem dX0_bearsAll_95 : decode cX0_bearsAll 95 = .ok (.iadd, 1) := by decide +kernel
theorem dX0_bearsAll_96 : decode cX0_bearsAll 96 = .ok (.goto 5, 3) := by decide +kernel
theorem dX0_bearsAll_99 : decode cX0_bearsAll 99 = .ok (.iload 7, 2) := by decide +kernel
theorem dX0_bearsAll_101 : decode cX0_bearsAll 101 = .ok (.ireturn, 1) := by decide +kernel
theorem dX0_bearsAxle_0 : decode cX0_bearsAxle 0 = .ok (.iload_n 1, 1) := by decide +kernel
theorem dX0_bearsAxle_1 : decode cX0_bearsAxle 1 = .ok (.bipush 10, 2) := by decide +kernel
theorem dX0_bearsAxle_3 : decode cX0_bearsAxle 3 = .ok (.imul, 1) := by decide +kernel
theorem dX0_bearsAxle_4 : decode cX0_bearsAxle 4 = .ok (.istore_n 2, 1) := by decide +kernel
theorem dX0_bearsAxle_5 : decode cX0_bearsAxle 5 = .ok (.aload_n 0, 1) := by decide +kernel
theorem dX0_bearsAxle_6 : decode cX0_bearsAxle 6 = .ok (.getfield 21, 3) := by decide +kernel
theorem dX0_bearsAxle_9 : decode cX0_bearsAxle 9 = .ok (.iload_n 2, 1) := by decide +kernel
theorem dX0_bearsAxle_10 : decode cX0_bearsAxle 10 = .ok (.iconst 3, 1) := by decide +kernel
theorem dX0_bearsAxle_11 : decode cX0_bearsAxle 11 = .ok (.iadd, 1) := by decide +kernel
theorem dX0_bearsAxle_12 : decode cX0_bearsAxle 12 = .ok (.iaload, 1) := by decide +kernel
theorem dX0_bearsAxle_13 : decode cX0_bearsAxle 13 = .ok (.istore_n 3, 1) := by decide +kernel
theorem dX0_bearsAxle_14 : decode cX0_bearsAxle 14 = .ok (.aload_n 0, 1) := by decide +kernel
theorem dX0_bearsAxle_15 : decode cX0_bearsAxle 15 = .ok (.iload_n 2, 1) := by decide +kernel
theorem dX0_bearsAxle_16 : decode cX0_bearsAxle 16 = .ok (.aload_n 0, 1) := by decide +kernel
theorem dX0_bearsAxle_17 : decode cX0_bearsAxle 17 = .ok (.getfield 21, 3) := by decide +kernel
theorem dX0_bearsAxle_20 : decode cX0_bearsAxle 20 = .ok (.iload_n 2, 1) := by decide +kernel
theorem dX0_bearsAxle_21 : decode cX0_bearsAxle 21 = .ok (.iconst 1, 1) := by decide +kernel
theorem dX0_bearsAxle_22 : decode cX0_bearsAxle 22 = .ok (.iadd, 1) := by decide +kernel
theorem dX0_bearsAxle_23 : decode cX0_bearsAxle 23 = .ok (.iaload, 1) := by decide +kernel
theorem dX0_bearsAxle_24 : decode cX0_bearsAxle 24 = .ok (.iconst 2, 1) := by decide +kernel
theorem dX0_bearsAxle_25 : decode cX0_bearsAxle 25 = .ok (.if_icmp .ne 9, 3) := by decide +kernel
theorem dX0_bearsAxle_28 : decode cX0_bearsAxle 28 = .ok (.iload_n 3, 1) := by decide +kernel
theorem dX0_bearsAxle_29 : decode cX0_bearsAxle 29 = .ok (.iconst 5, 1) := by decide +kernel
theorem dX0_bearsAxle_30 : decode cX0_bearsAxle 30 = .ok (.iadd, 1) := by decide +kernel
theorem dX0_bearsAxle_31 : decode cX0_bearsAxle 31 = .ok (.goto 4, 3) := by decide +kernel
theorem dX0_bearsAxle_34 : decode cX0_bearsAxle 34 = .ok (.iload_n 3, 1) := by decide +kernel
theorem dX0_bearsAxle_35 : decode cX0_bearsAxle 35 = .ok (.invokevirtual 60, 3) := by decide +kernel
theorem dX0_bearsAxle_38 : decode cX0_bearsAxle 38 = .ok (.ireturn, 1) := by decide +kernel
theorem dX0_believed_0 : decode cX0_believed 0 = .ok (.aload_n 0, 1) := by decide +kernel
theorem dX0_believed_1 : decode cX0_believed 1 = .ok (.getfield 21, 3) := by decide +kernel
theorem dX0_believed_4 : decode cX0_believed 4 = .ok (.iload_n 1, 1) := by decide +kernel
theorem dX0_believed_5 : decode cX0_believed 5 = .ok (.iconst 1, 1) := by decide +kernel
theorem dX0_believed_6 : decode cX0_believed 6 = .ok (.iadd, 1) := by decide +kernel
theorem dX0_believed_7 : decode cX0_believed 7 = .ok (.iaload, 1) := by decide +kernel
theorem dX0_believed_8 : decode cX0_believed 8 = .ok (.istore_n 3, 1) := by decide +kernel
theorem dX0_believed_9 : decode cX0_believed 9 = .ok (.aload_n 0, 1) := by decide +kernel
theorem dX0_believed_10 : decode cX0_believed 10 = .ok (.getfield 21, 3) := by decide +kernel
theorem dX0_believed_13 : decode cX0_believed 13 = .ok (.iload_n 1, 1) := by decide +kernel
theorem dX0_believed_14 : decode cX0_believed 14 = .ok (.bipush 8, 2) := by decide +kernel
theorem dX0_believed_16 : decode cX0_believed 16 = .ok (.iadd, 1) := by decide +kernel
theorem dX0_believed_17 : decode cX0_believed 17 = .ok (.iaload, 1) := by decide +kernel
theorem dX0_believed_18 : decode cX0_believed 18 = .ok (.iconst 1, 1) := by decide +kernel
theorem dX0_believed_19 : decode cX0_believed 19 = .ok (.if_icmp .eq 17, 3) := by decide +kernel
theorem dX0_believed_22 : decode cX0_believed 22 = .ok (.iload_n 3, 1) := by decide +kernel
theorem dX0_believed_23 : decode cX0_believed 23 = .ok (.iconst 5, 1) := by decide +kernel
theorem dX0_believed_24 : decode cX0_believed 24 = .ok (.if_icmp .ne 14, 3) := by decide +kernel
theorem dX0_believed_27 : decode cX0_believed 27 = .ok (.aload_n 0, 1) := by decide +kernel
theorem dX0_believed_28 : decode cX0_believed 28 = .ok (.getfield 30, 3) := by decide +kernel
theorem dX0_believed_31 : decode cX0_believed 31 = .ok (.iconst 2, 1) := by decide +kernel
theorem dX0_believed_32 : decode cX0_believed 32 = .ok (.iaload, 1) := by decide +kernel
theorem dX0_believed_33 : decode cX0_believed 33 = .ok (.ifCond .ne 5, 3) := by decide +kernel
theorem dX0_believed_36 : decode cX0_believed 36 = .ok (.iconst 0, 1) := by decide +kernel
theorem dX0_believed_37 : decode cX0_believed 37 = .ok (.ireturn, 1) := by decide +kernel
theorem dX0_believed_38 : decode cX0_believed 38 = .ok (.iload_n 3, 1) := by decide +kernel
theorem dX0_believed_39 : decode cX0_believed 39 = .ok (.iconst 4, 1) := by decide +kernel
theorem dX0_believed_40 : decode cX0_believed 40 = .ok (.if_icmp .eq 8, 3) := by decide +kernel
theorem dX0_believed_43 : decode cX0_believed 43 = .ok (.iload_n 3, 1) := by decide +kernel
theorem dX0_believed_44 : decode cX0_believed 44 = .ok (.iconst 5, 1) := by decide +kernel
theorem dX0_believed_45 : decode cX0_believed 45 = .ok (.if_icmp .ne 7, 3) := by decide +kernel
theorem dX0_believed_48 : decode cX0_believed 48 = .ok (.iconst 1, 1) := by decide +kernel
theorem dX0_believed_49 : decode cX0_believed 49 = .ok (.goto 4, 3) := by decide +kernel
theorem dX0_believed_52 : decode cX0_believed 52 = .ok (.iconst 0, 1) := by decide +kernel
theorem dX0_believed_53 : decode cX0_believed 53 = .ok (.istore 4, 2) := by decide +kernel
theorem dX0_believed_55 : decode cX0_believed 55 = .ok (.iload 4, 2) := by decide +kernel
theorem dX0_believed_57 : decode cX0_believed 57 = .ok (.ifCond .eq 21, 3) := by decide +kernel
theorem dX0_believed_60 : decode cX0_believed 60 = .ok (.aload_n 0, 1) := by decide +kernel
theorem dX0_believed_61 : decode cX0_believed 61 = .ok (.getfield 21, 3) := by decide +kernel
theorem dX0_believed_64 : decode cX0_believed 64 = .ok (.iload_n 1, 1) := by decide +kernel
theorem dX0_believed_65 : decode cX0_believed 65 = .ok (.bipush 9, 2) := by decide +kernel
theorem dX0_believed_67 : decode cX0_believed 67 = .ok (.iadd, 1) := by decide +kernel
theorem dX0_believed_68 : decode cX0_believed 68 = .ok (.iaload, 1) := by decide +kernel
theorem dX0_believed_69 : decode cX0_believed 69 = .ok (.ifCond .ne 9, 3) := by decide +kernel
theorem dX0_believed_72 : decode cX0_believed 72 = .ok (.iload_n 2, 1) := by decide +kernel
theorem dX0_believed_73 : decode cX0_believed 73 = .ok (.iconst 2, 1) := by decide +kernel
theorem dX0_believed_74 : decode cX0_believed 74 = .ok (.idiv, 1) := by decide +kernel
theorem dX0_believed_75 : decode cX0_believed 75 = .ok (.goto 4, 3) := by decide +kernel
theorem dX0_believed_78 : decode cX0_believed 78 = .ok (.iload_n 2, 1) := by decide +kernel
theorem dX0_believed_79 : decode cX0_believed 79 = .ok (.ireturn, 1) := by decide +kernel
theorem dX0_countBridges_0 : decode cX0_countBridges 0 = .ok (.iconst 0, 1) := by decide +kernel
theorem dX0_countBridges_1 : decode cX0_countBridges 1 = .ok (.istore_n 2, 1) := by decide +kernel
theorem dX0_countBridges_2 : decode cX0_countBridges 2 = .ok (.iconst 0, 1) := by decide +kernel
theorem dX0_countBridges_3 : decode cX0_countBridges 3 = .ok (.istore_n 3, 1) := by decide +kernel
theorem dX0_countBridges_4 : decode cX0_countBridges 4 = .ok (.iload_n 3, 1) := by decide +kernel
theorem dX0_countBridges_5 : decode cX0_countBridges 5 = .ok (.aload_n 0, 1) := by decide +kernel
theorem dX0_countBridges_6 : decode cX0_countBridges 6 = .ok (.getfield 13, 3) := by decide +kernel
theorem dX0_countBridges_9 : decode cX0_countBridges 9 = .ok (.iconst 1, 1) := by decide +kernel
theorem dX0_countBridges_10 : decode cX0_countBridges 10 = .ok (.iaload, 1) := by decide +kernel
theorem dX0_countBridges_11 : decode cX0_countBridges 11 = .ok (.if_icmp .ge 18, 3) := by decide +kernel
theorem dX0_countBridges_14 : decode cX0_countBridges 14 = .ok (.iload_n 2, 1) := by decide +kernel
theorem dX0_countBridges_15 : decode cX0_countBridges 15 = .ok (.aload_n 0, 1) := by decide +kernel
theorem dX0_countBridges_16 : decode cX0_countBridges 16 = .ok (.iload_n 3, 1) := by decide +kernel
theorem dX0_countBridges_17 : decode cX0_countBridges 17 = .ok (.iload_n 1, 1) := by decide +kernel
theorem dX0_countBridges_18 : decode cX0_countBridges 18 = .ok (.invokevirtual 50, 3) := by decide +kernel
theorem dX0_countBridges_21 : decode cX0_countBridges 21 = .ok (.iadd, 1) := by decide +kernel
theorem dX0_countBridges_22 : decode cX0_countBridges 22 = .ok (.istore_n 2, 1) := by decide +kernel
theorem dX0_countBridges_23 : decode cX0_countBridges 23 = .ok (.iinc 3 1, 3) := by decide +kernel
theorem dX0_countBridges_26 : decode cX0_countBridges 26 = .ok (.goto (-22), 3) := by decide +kernel
theorem dX0_countBridges_29 : decode cX0_countBridges 29 = .ok (.iload_n 2, 1) := by decide +kernel
theorem dX0_countBridges_30 : decode cX0_countBridges 30 = .ok (.ireturn, 1) := by decide +kernel
theorem dX0_isPropped_0 : decode cX0_isPropped 0 = .ok (.aload_n 0, 1) := by decide +kernel
theorem dX0_isPropped_1 : decode cX0_isPropped 1 = .ok (.iload_n 1, 1) := by decide +kernel
theorem dX0_isPropped_2 : decode cX0_isPropped 2 = .ok (.bipush 7, 2) := by decide +kernel
theorem dX0_isPropped_4 : decode cX0_isPropped 4 = .ok (.invokevirtual 50, 3) := by decide +kernel
theorem dX0_isPropped_7 : decode cX0_isPropped 7 = .ok (.iconst 1, 1) := by decide +kernel
theorem dX0_isPropped_8 : decode cX0_isPropped 8 = .ok (.if_icmp .ne 7, 3) := by decide +kernel
theorem dX0_isPropped_11 : decode cX0_isPropped 11 = .ok (.iconst 1, 1) := by decide +kernel
theorem dX0_isPropped_12 : decode cX0_isPropped 12 = .ok (.goto 4, 3) := by decide +kernel
theorem dX0_isPropped_15 : decode cX0_isPropped 15 = .ok (.iconst 0, 1) := by decide +kernel
theorem dX0_isPropped_16 : decode cX0_isPropped 16 = .ok (.ireturn, 1) := by decide +kernel
theorem dX0_mayBeTakenFor_0 : decode cX0_mayBeTakenFor 0 = .ok (.getstatic 57, 3) := by decide +kernel
theorem dX0_mayBeTakenFor_3 : decode cX0_mayBeTakenFor 3 = .ok (.aload_n 0, 1) := by decide +kernel
theorem dX0_mayBeTakenFor_4 : decode cX0_mayBeTakenFor 4 = .ok (.iload_n 1, 1) := by decide +kernel
theorem dX0_mayBeTakenFor_5 : decode cX0_mayBeTakenFor 5 = .ok (.iconst 1, 1) := by decide +kernel
theorem dX0_mayBeTakenFor_6 : decode cX0_mayBeTakenFor 6 = .ok (.invokevirtual 50, 3) := by decide +kernel
theorem dX0_mayBeTakenFor_9 : decode cX0_mayBeTakenFor 9 = .ok (.iaload, 1) := by decide +kernel
theorem dX0_mayBeTakenFor_10 : decode cX0_mayBeTakenFor 10 = .ok (.iload_n 2, 1) := by decide +kernel
theorem dX0_mayBeTakenFor_11 : decode cX0_mayBeTakenFor 11 = .ok (.ishr, 1) := by decide +kernel
theorem dX0_mayBeTakenFor_12 : decode cX0_mayBeTakenFor 12 = .ok (.iconst 1, 1) := by decide +kernel
theorem dX0_mayBeTakenFor_13 : decode cX0_mayBeTakenFor 13 = .ok (.iand, 1) := by decide +kernel
theorem dX0_mayBeTakenFor_14 : decode cX0_mayBeTakenFor 14 = .ok (.iconst 1, 1) := by decide +kernel
theorem dX0_mayBeTakenFor_15 : decode cX0_mayBeTakenFor 15 = .ok (.if_icmp .ne 7, 3) := by decide +kernel
theorem dX0_mayBeTakenFor_18 : decode cX0_mayBeTakenFor 18 = .ok (.iconst 1, 1) := by decide +kernel
theorem dX0_mayBeTakenFor_19 : decode cX0_mayBeTakenFor 19 = .ok (.goto 4, 3) := by decide +kernel
theorem dX0_mayBeTakenFor_22 : decode cX0_mayBeTakenFor 22 = .ok (.iconst 0, 1) := by decide +kernel
theorem dX0_mayBeTakenFor_23 : decode cX0_mayBeTakenFor 23 = .ok (.ireturn, 1) := by decide +kernel
theorem dX0_putBridgeColumn_0 : decode cX0_putBridgeColumn 0 = .ok (.aload_n 0, 1) := by decide +kernel
theorem dX0_putBridgeColumn_1 : decode cX0_putBridgeColumn 1 = .ok (.getfield 21, 3) := by decide +kernel
theorem dX0_putBridgeColumn_4 : decode cX0_putBridgeColumn 4 = .ok (.iload_n 1, 1) := by decide +kernel
theorem dX0_putBridgeColumn_5 : decode cX0_putBridgeColumn 5 = .ok (.bipush 10, 2) := by decide +kernel
theorem dX0_putBridgeColumn_7 : decode cX0_putBridgeColumn 7 = .ok (.imul, 1) := by decide +kernel
theorem dX0_putBridgeColumn_8 : decode cX0_putBridgeColumn 8 = .ok (.iload_n 2, 1) := by decide +kernel
theorem dX0_putBridgeColumn_9 : decode cX0_putBridgeColumn 9 = .ok (.iadd, 1) := by decide +kernel
theorem dX0_putBridgeColumn_10 : decode cX0_putBridgeColumn 10 = .ok (.iload_n 3, 1) := by decide +kernel
theorem dX0_putBridgeColumn_11 : decode cX0_putBridgeColumn 11 = .ok (.iastore, 1) := by decide +kernel
theorem dX0_putBridgeColumn_12 : decode cX0_putBridgeColumn 12 = .ok (.return_, 1) := by decide +kernel
theorem dX0_putProp_0 : decode cX0_putProp 0 = .ok (.aload_n 0, 1) := by decide +kernel
theorem dX0_putProp_1 : decode cX0_putProp 1 = .ok (.iload_n 1, 1) := by decide +kernel
theorem dX0_putProp_2 : decode cX0_putProp 2 = .ok (.iconst 5, 1) := by decide +kernel
theorem dX0_putProp_3 : decode cX0_putProp 3 = .ok (.iload_n 2, 1) := by decide +kernel
theorem dX0_putProp_4 : decode cX0_putProp 4 = .ok (.invokevirtual 46, 3) := by decide +kernel
theorem dX0_putProp_7 : decode cX0_putProp 7 = .ok (.aload_n 0, 1) := by decide +kernel
theorem dX0_putProp_8 : decode cX0_putProp 8 = .ok (.iload_n 1, 1) := by decide +kernel
theorem dX0_putProp_9 : decode cX0_putProp 9 = .ok (.bipush 6, 2) := by decide +kernel
theorem dX0_putProp_11 : decode cX0_putProp 11 = .ok (.iload_n 3, 1) := by decide +kernel
theorem dX0_putProp_12 : decode cX0_putProp 12 = .ok (.invokevirtual 46, 3) := by decide +kernel
theorem dX0_putProp_15 : decode cX0_putProp 15 = .ok (.return_, 1) := by decide +kernel
theorem dX0_startTrip_0 : decode cX0_startTrip 0 = .ok (.aload_n 0, 1) := by decide +kernel
theorem dX0_startTrip_1 : decode cX0_startTrip 1 = .ok (.getfield 33, 3) := by decide +kernel
theorem dX0_startTrip_4 : decode cX0_startTrip 4 = .ok (.iconst 0, 1) := by decide +kernel
theorem dX0_startTrip_5 : decode cX0_startTrip 5 = .ok (.iload_n 3, 1) := by decide +kernel
theorem dX0_startTrip_6 : decode cX0_startTrip 6 = .ok (.iastore, 1) := by decide +kernel
theorem dX0_startTrip_7 : decode cX0_startTrip 7 = .ok (.aload_n 0, 1) := by decide +kernel
theorem dX0_startTrip_8 : decode cX0_startTrip 8 = .ok (.getfield 33, 3) := by decide +kernel
theorem dX0_startTrip_11 : decode cX0_startTrip 11 = .ok (.iconst 1, 1) := by decide +kernel
theorem dX0_startTrip_12 : decode cX0_startTrip 12 = .ok (.iload 4, 2) := by decide +kernel
theorem dX0_startTrip_14 : decode cX0_startTrip 14 = .ok (.iastore, 1) := by decide +kernel
theorem dX0_startTrip_15 : decode cX0_startTrip 15 = .ok (.aload_n 0, 1) := by decide +kernel
theorem dX0_startTrip_16 : decode cX0_startTrip 16 = .ok (.getfield 33, 3) := by decide +kernel
theorem dX0_startTrip_19 : decode cX0_startTrip 19 = .ok (.iconst 2, 1) := by decide +kernel
theorem dX0_startTrip_20 : decode cX0_startTrip 20 = .ok (.iload 5, 2) := by decide +kernel
theorem dX0_startTrip_22 : decode cX0_startTrip 22 = .ok (.iastore, 1) := by decide +kernel
theorem dX0_startTrip_23 : decode cX0_startTrip 23 = .ok (.aload_n 0, 1) := by decide +kernel
theorem dX0_startTrip_24 : decode cX0_startTrip 24 = .ok (.getfield 33, 3) := by decide +kernel
theorem dX0_startTrip_27 : decode cX0_startTrip 27 = .ok (.iconst 3, 1) := by decide +kernel
theorem dX0_startTrip_28 : decode cX0_startTrip 28 = .ok (.iconst 0, 1) := by decide +kernel
theorem dX0_startTrip_29 : decode cX0_startTrip 29 = .ok (.iastore, 1) := by decide +kernel
theorem dX0_startTrip_30 : decode cX0_startTrip 30 = .ok (.aload_n 0, 1) := by decide +kernel
theorem dX0_startTrip_31 : decode cX0_startTrip 31 = .ok (.getfield 33, 3) := by decide +kernel
theorem dX0_startTrip_34 : decode cX0_startTrip 34 = .ok (.iconst 4, 1) := by decide +kernel
theorem dX0_startTrip_35 : decode cX0_startTrip 35 = .ok (.iconst 0, 1) := by decide +kernel
theorem dX0_startTrip_36 : decode cX0_startTrip 36 = .ok (.iastore, 1) := by decide +kernel
theorem dX0_startTrip_37 : decode cX0_startTrip 37 = .ok (.aload_n 0, 1) := by decide +kernel
theorem dX0_startTrip_38 : decode cX0_startTrip 38 = .ok (.getfield 33, 3) := by decide +kernel
theorem dX0_startTrip_41 : decode cX0_startTrip 41 = .ok (.iconst 5, 1) := by decide +kernel
theorem dX0_startTrip_42 : decode cX0_startTrip 42 = .ok (.iload_n 1, 1) := by decide +kernel
theorem dX0_startTrip_43 : decode cX0_startTrip 43 = .ok (.iastore, 1) := by decide +kernel
theorem dX0_startTrip_44 : decode cX0_startTrip 44 = .ok (.aload_n 0, 1) := by decide +kernel
theorem dX0_startTrip_45 : decode cX0_startTrip 45 = .ok (.getfield 33, 3) := by decide +kernel
theorem dX0_startTrip_48 : decode cX0_startTrip 48 = .ok (.bipush 6, 2) := by decide +kernel
theorem dX0_startTrip_50 : decode cX0_startTrip 50 = .ok (.iload_n 2, 1) := by decide +kernel
theorem dX0_startTrip_51 : decode cX0_startTrip 51 = .ok (.iastore, 1) := by decide +kernel
theorem dX0_startTrip_52 : decode cX0_startTrip 52 = .ok (.aload_n 0, 1) := by decide +kernel
theorem dX0_startTrip_53 : decode cX0_startTrip 53 = .ok (.iconst 1, 1) := by decide +kernel
theorem dX0_startTrip_54 : decode cX0_startTrip 54 = .ok (.putfield 36, 3) := by decide +kernel
theorem dX0_startTrip_57 : decode cX0_startTrip 57 = .ok (.return_, 1) := by decide +kernel
theorem dX0_sumOfParts_0 : decode cX0_sumOfParts 0 = .ok (.iconst 0, 1) := by decide +kernel
theorem dX0_sumOfParts_1 : decode cX0_sumOfParts 1 = .ok (.istore_n 3, 1) := by decide +kernel
theorem dX0_sumOfParts_2 : decode cX0_sumOfParts 2 = .ok (.iconst 0, 1) := by decide +kernel
theorem dX0_sumOfParts_3 : decode cX0_sumOfParts 3 = .ok (.istore 4, 2) := by decide +kernel
theorem dX0_sumOfParts_5 : decode cX0_sumOfParts 5 = .ok (.iload 4, 2) := by decide +kernel
theorem dX0_sumOfParts_7 : decode cX0_sumOfParts 7 = .ok (.aload_n 0, 1) := by decide +kernel
theorem dX0_sumOfParts_8 : decode cX0_sumOfParts 8 = .ok (.getfield 13, 3) := by decide +kernel
theorem dX0_sumOfParts_11 : decode cX0_sumOfParts 11 = .ok (.iconst 3, 1) := by decide +kernel
theorem dX0_sumOfParts_12 : decode cX0_sumOfParts 12 = .ok (.iaload, 1) := by decide +kernel
theorem dX0_sumOfParts_13 : decode cX0_sumOfParts 13 = .ok (.if_icmp .ge 33, 3) := by decide +kernel
theorem dX0_sumOfParts_16 : decode cX0_sumOfParts 16 = .ok (.iload_n 1, 1) := by decide +kernel
theorem dX0_sumOfParts_17 : decode cX0_sumOfParts 17 = .ok (.iload 4, 2) := by decide +kernel
theorem dX0_sumOfParts_19 : decode cX0_sumOfParts 19 = .ok (.ishr, 1) := by decide +kernel
theorem dX0_sumOfParts_20 : decode cX0_sumOfParts 20 = .ok (.iconst 1, 1) := by decide +kernel
theorem dX0_sumOfParts_21 : decode cX0_sumOfParts 21 = .ok (.iand, 1) := by decide +kernel
theorem dX0_sumOfParts_22 : decode cX0_sumOfParts 22 = .ok (.iconst 1, 1) := by decide +kernel
theorem dX0_sumOfParts_23 : decode cX0_sumOfParts 23 = .ok (.if_icmp .ne 17, 3) := by decide +kernel
theorem dX0_sumOfParts_26 : decode cX0_sumOfParts 26 = .ok (.iload_n 3, 1) := by decide +kernel
theorem dX0_sumOfParts_27 : decode cX0_sumOfParts 27 = .ok (.aload_n 0, 1) := by decide +kernel
theorem dX0_sumOfParts_28 : decode cX0_sumOfParts 28 = .ok (.getfield 27, 3) := by decide +kernel
theorem dX0_sumOfParts_31 : decode cX0_sumOfParts 31 = .ok (.iload 4, 2) := by decide +kernel
theorem dX0_sumOfParts_33 : decode cX0_sumOfParts 33 = .ok (.iconst 2, 1) := by decide +kernel
theorem dX0_sumOfParts_34 : decode cX0_sumOfParts 34 = .ok (.imul, 1) := by decide +kernel
theorem dX0_sumOfParts_35 : decode cX0_sumOfParts 35 = .ok (.iload_n 2, 1) := by decide +kernel
theorem dX0_sumOfParts_36 : decode cX0_sumOfParts 36 = .ok (.iadd, 1) := by decide +kernel
theorem dX0_sumOfParts_37 : decode cX0_sumOfParts 37 = .ok (.iaload, 1) := by decide +kernel
theorem dX0_sumOfParts_38 : decode cX0_sumOfParts 38 = .ok (.iadd, 1) := by decide +kernel
theorem dX0_sumOfParts_39 : decode cX0_sumOfParts 39 = .ok (.istore_n 3, 1) := by decide +kernel
theorem dX0_sumOfParts_40 : decode cX0_sumOfParts 40 = .ok (.iinc 4 1, 3) := by decide +kernel
theorem dX0_sumOfParts_43 : decode cX0_sumOfParts 43 = .ok (.goto (-38), 3) := by decide +kernel
theorem dX0_sumOfParts_46 : decode cX0_sumOfParts 46 = .ok (.iload_n 3, 1) := by decide +kernel
theorem dX0_sumOfParts_47 : decode cX0_sumOfParts 47 = .ok (.ireturn, 1) := by decide +kernel
theorem dX0_waggonLength_0 : decode cX0_waggonLength 0 = .ok (.aload_n 0, 1) := by decide +kernel
theorem dX0_waggonLength_1 : decode cX0_waggonLength 1 = .ok (.iload_n 1, 1) := by decide +kernel
theorem dX0_waggonLength_2 : decode cX0_waggonLength 2 = .ok (.iconst 1, 1) := by decide +kernel
theorem dX0_waggonLength_3 : decode cX0_waggonLength 3 = .ok (.invokevirtual 54, 3) := by decide +kernel
theorem dX0_waggonLength_6 : decode cX0_waggonLength 6 = .ok (.aload_n 0, 1) := by decide +kernel
theorem dX0_waggonLength_7 : decode cX0_waggonLength 7 = .ok (.iload_n 1, 1) := by decide +kernel
theorem dX0_waggonLength_8 : decode cX0_waggonLength 8 = .ok (.iconst 0, 1) := by decide +kernel
theorem dX0_waggonLength_9 : decode cX0_waggonLength 9 = .ok (.invokevirtual 54, 3) := by decide +kernel
theorem dX0_waggonLength_12 : decode cX0_waggonLength 12 = .ok (.iconst 1, 1) := by decide +kernel
theorem dX0_waggonLength_13 : decode cX0_waggonLength 13 = .ok (.isub, 1) := by decide +kernel
theorem dX0_waggonLength_14 : decode cX0_waggonLength 14 = .ok (.imul, 1) := by decide +kernel
theorem dX0_waggonLength_15 : decode cX0_waggonLength 15 = .ok (.iconst 4, 1) := by decide +kernel
theorem dX0_waggonLength_16 : decode cX0_waggonLength 16 = .ok (.iadd, 1) := by decide +kernel
theorem dX0_waggonLength_17 : decode cX0_waggonLength 17 = .ok (.ireturn, 1) := by decide +kernel
theorem dX1_needsOf_0 : decode cX1_needsOf 0 = .ok (.aload_n 0, 1) := by decide +kernel
theorem dX1_needsOf_1 : decode cX1_needsOf 1 = .ok (.getfield 46, 3) := by decide +kernel
theorem dX1_needsOf_4 : decode cX1_needsOf 4 = .ok (.aload_n 1, 1) := by decide +kernel
theorem dX1_needsOf_5 : decode cX1_needsOf 5 = .ok (.iload_n 2, 1) := by decide +kernel
theorem dX1_needsOf_6 : decode cX1_needsOf 6 = .ok (.invokevirtual 58, 3) := by decide +kernel
theorem dX1_needsOf_9 : decode cX1_needsOf 9 = .ok (.if_icmp .le 5, 3) := by decide +kernel
theorem dX1_needsOf_12 : decode cX1_needsOf 12 = .ok (.iconst 2, 1) := by decide +kernel
theorem dX1_needsOf_13 : decode cX1_needsOf 13 = .ok (.ireturn, 1) := by decide +kernel
theorem dX1_needsOf_14 : decode cX1_needsOf 14 = .ok (.aload_n 0, 1) := by decide +kernel
theorem dX1_needsOf_15 : decode cX1_needsOf 15 = .ok (.aload_n 1, 1) := by decide +kernel
theorem dX1_needsOf_16 : decode cX1_needsOf 16 = .ok (.iload_n 2, 1) := by decide +kernel
theorem dX1_needsOf_17 : decode cX1_needsOf 17 = .ok (.iconst 2, 1) := by decide +kernel
theorem dX1_needsOf_18 : decode cX1_needsOf 18 = .ok (.invokevirtual 61, 3) := by decide +kernel
theorem dX1_needsOf_21 : decode cX1_needsOf 21 = .ok (.invokevirtual 64, 3) := by decide +kernel
theorem dX1_needsOf_24 : decode cX1_needsOf 24 = .ok (.istore_n 3, 1) := by decide +kernel
theorem dX1_needsOf_25 : decode cX1_needsOf 25 = .ok (.aload_n 1, 1) := by decide +kernel
theorem dX1_needsOf_26 : decode cX1_needsOf 26 = .ok (.iload_n 2, 1) := by decide +kernel
theorem dX1_needsOf_27 : decode cX1_needsOf 27 = .ok (.invokevirtual 67, 3) := by decide +kernel
theorem dX1_needsOf_30 : decode cX1_needsOf 30 = .ok (.istore 4, 2) := by decide +kernel
theorem dX1_needsOf_32 : decode cX1_needsOf 32 = .ok (.iload_n 3, 1) := by decide +kernel
theorem dX1_needsOf_33 : decode cX1_needsOf 33 = .ok (.aload_n 1, 1) := by decide +kernel
theorem dX1_needsOf_34 : decode cX1_needsOf 34 = .ok (.iload_n 2, 1) := by decide +kernel
theorem dX1_needsOf_35 : decode cX1_needsOf 35 = .ok (.iload 4, 2) := by decide +kernel
theorem dX1_needsOf_37 : decode cX1_needsOf 37 = .ok (.invokevirtual 71, 3) := by decide +kernel
theorem dX1_needsOf_40 : decode cX1_needsOf 40 = .ok (.if_icmp .gt 5, 3) := by decide +kernel
theorem dX1_needsOf_43 : decode cX1_needsOf 43 = .ok (.iconst 0, 1) := by decide +kernel
theorem dX1_needsOf_44 : decode cX1_needsOf 44 = .ok (.ireturn, 1) := by decide +kernel
theorem dX1_needsOf_45 : decode cX1_needsOf 45 = .ok (.iload 4, 2) := by decide +kernel
theorem dX1_needsOf_47 : decode cX1_needsOf 47 = .ok (.ifCond .ne 13, 3) := by decide +kernel
theorem dX1_needsOf_50 : decode cX1_needsOf 50 = .ok (.aload_n 1, 1) := by decide +kernel
theorem dX1_needsOf_51 : decode cX1_needsOf 51 = .ok (.iload_n 2, 1) := by decide +kernel
theorem dX1_needsOf_52 : decode cX1_needsOf 52 = .ok (.iconst 1, 1) := by decide +kernel
theorem dX1_needsOf_53 : decode cX1_needsOf 53 = .ok (.invokevirtual 61, 3) := by decide +kernel
theorem dX1_needsOf_56 : decode cX1_needsOf 56 = .ok (.iconst 3, 1) := by decide +kernel
theorem dX1_needsOf_57 : decode cX1_needsOf 57 = .ok (.if_icmp .ne 5, 3) := by decide +kernel
theorem dX1_needsOf_60 : decode cX1_needsOf 60 = .ok (.iconst 2, 1) := by decide +kernel
theorem dX1_needsOf_61 : decode cX1_needsOf 61 = .ok (.ireturn, 1) := by decide +kernel
theorem dX1_needsOf_62 : decode cX1_needsOf 62 = .ok (.iload_n 3, 1) := by decide +kernel
theorem dX1_needsOf_63 : decode cX1_needsOf 63 = .ok (.aload_n 1, 1) := by decide +kernel
theorem dX1_needsOf_64 : decode cX1_needsOf 64 = .ok (.iload_n 2, 1) := by decide +kernel
theorem dX1_needsOf_65 : decode cX1_needsOf 65 = .ok (.iconst 1, 1) := by decide +kernel
theorem dX1_needsOf_66 : decode cX1_needsOf 66 = .ok (.invokevirtual 71, 3) := by decide +kernel
theorem dX1_needsOf_69 : decode cX1_needsOf 69 = .ok (.if_icmp .gt 7, 3) := by decide +kernel
theorem dX1_needsOf_72 : decode cX1_needsOf 72 = .ok (.iconst 1, 1) := by decide +kernel
theorem dX1_needsOf_73 : decode cX1_needsOf 73 = .ok (.goto 4, 3) := by decide +kernel
theorem dX1_needsOf_76 : decode cX1_needsOf 76 = .ok (.iconst 2, 1) := by decide +kernel
theorem dX1_needsOf_77 : decode cX1_needsOf 77 = .ok (.ireturn, 1) := by decide +kernel
theorem dX1_strainOn_0 : decode cX1_strainOn 0 = .ok (.aload_n 0, 1) := by decide +kernel
theorem dX1_strainOn_1 : decode cX1_strainOn 1 = .ok (.getfield 15, 3) := by decide +kernel
theorem dX1_strainOn_4 : decode cX1_strainOn 4 = .ok (.iload_n 1, 1) := by decide +kernel
theorem dX1_strainOn_5 : decode cX1_strainOn 5 = .ok (.aload_n 0, 1) := by decide +kernel
theorem dX1_strainOn_6 : decode cX1_strainOn 6 = .ok (.getfield 21, 3) := by decide +kernel
theorem dX1_strainOn_9 : decode cX1_strainOn 9 = .ok (.invokestatic 52, 3) := by decide +kernel
theorem dX1_strainOn_12 : decode cX1_strainOn 12 = .ok (.iconst 1, 1) := by decide +kernel
theorem dX1_strainOn_13 : decode cX1_strainOn 13 = .ok (.iadd, 1) := by decide +kernel
theorem dX1_strainOn_14 : decode cX1_strainOn 14 = .ok (.invokestatic 55, 3) := by decide +kernel
theorem dX1_strainOn_17 : decode cX1_strainOn 17 = .ok (.aload_n 0, 1) := by decide +kernel
theorem dX1_strainOn_18 : decode cX1_strainOn 18 = .ok (.getfield 46, 3) := by decide +kernel
theorem dX1_strainOn_21 : decode cX1_strainOn 21 = .ok (.imul, 1) := by decide +kernel
theorem dX1_strainOn_22 : decode cX1_strainOn 22 = .ok (.ireturn, 1) := by decide +kernel
theorem dX1_take_0 : decode cX1_take 0 = .ok (.aload_n 0, 1) := by decide +kernel
theorem dX1_take_1 : decode cX1_take 1 = .ok (.aload_n 1, 1) := by decide +kernel
theorem dX1_take_2 : decode cX1_take 2 = .ok (.iload_n 2, 1) := by decide +kernel
theorem dX1_take_3 : decode cX1_take 3 = .ok (.iconst 0, 1) := by decide +kernel
theorem dX1_take_4 : decode cX1_take 4 = .ok (.invokevirtual 9, 3) := by decide +kernel
theorem dX1_take_7 : decode cX1_take 7 = .ok (.putfield 15, 3) := by decide +kernel
theorem dX1_take_10 : decode cX1_take 10 = .ok (.aload_n 0, 1) := by decide +kernel
theorem dX1_take_11 : decode cX1_take 11 = .ok (.aload_n 1, 1) := by decide +kernel
theorem dX1_take_12 : decode cX1_take 12 = .ok (.iload_n 2, 1) := by decide +kernel
theorem dX1_take_13 : decode cX1_take 13 = .ok (.iconst 1, 1) := by decide +kernel
theorem dX1_take_14 : decode cX1_take 14 = .ok (.invokevirtual 9, 3) := by decide +kernel
theorem dX1_take_17 : decode cX1_take 17 = .ok (.putfield 21, 3) := by decide +kernel
theorem dX1_take_20 : decode cX1_take 20 = .ok (.aload_n 0, 1) := by decide +kernel
theorem dX1_take_21 : decode cX1_take 21 = .ok (.aload_n 1, 1) := by decide +kernel
theorem dX1_take_22 : decode cX1_take 22 = .ok (.iload_n 2, 1) := by decide +kernel
theorem dX1_take_23 : decode cX1_take 23 = .ok (.invokevirtual 24, 3) := by decide +kernel
theorem dX1_take_26 : decode cX1_take 26 = .ok (.putfield 28, 3) := by decide +kernel
theorem dX1_take_29 : decode cX1_take 29 = .ok (.aload_n 1, 1) := by decide +kernel
theorem dX1_take_30 : decode cX1_take 30 = .ok (.iload_n 2, 1) := by decide +kernel
theorem dX1_take_31 : decode cX1_take 31 = .ok (.iconst 2, 1) := by decide +kernel
theorem dX1_take_32 : decode cX1_take 32 = .ok (.invokevirtual 9, 3) := by decide +kernel
theorem dX1_take_35 : decode cX1_take 35 = .ok (.aload_n 1, 1) := by decide +kernel
theorem dX1_take_36 : decode cX1_take 36 = .ok (.getfield 31, 3) := by decide +kernel
theorem dX1_take_39 : decode cX1_take 39 = .ok (.iconst 0, 1) := by decide +kernel
theorem dX1_take_40 : decode cX1_take 40 = .ok (.iaload, 1) := by decide +kernel
theorem dX1_take_41 : decode cX1_take 41 = .ok (.iadd, 1) := by decide +kernel
theorem dX1_take_42 : decode cX1_take 42 = .ok (.aload_n 1, 1) := by decide +kernel
theorem dX1_take_43 : decode cX1_take 43 = .ok (.iload_n 3, 1) := by decide +kernel
theorem dX1_take_44 : decode cX1_take 44 = .ok (.iconst 0, 1) := by decide +kernel
theorem dX1_take_45 : decode cX1_take 45 = .ok (.invokevirtual 35, 3) := by decide +kernel
theorem dX1_take_48 : decode cX1_take 48 = .ok (.isub, 1) := by decide +kernel
theorem dX1_take_49 : decode cX1_take 49 = .ok (.istore 4, 2) := by decide +kernel
theorem dX1_take_51 : decode cX1_take 51 = .ok (.aload_n 0, 1) := by decide +kernel
theorem dX1_take_52 : decode cX1_take 52 = .ok (.iload 4, 2) := by decide +kernel
theorem dX1_take_54 : decode cX1_take 54 = .ok (.iconst 0, 1) := by decide +kernel
theorem dX1_take_55 : decode cX1_take 55 = .ok (.invokestatic 38, 3) := by decide +kernel
theorem dX1_take_58 : decode cX1_take 58 = .ok (.aload_n 0, 1) := by decide +kernel
theorem dX1_take_59 : decode cX1_take 59 = .ok (.getfield 15, 3) := by decide +kernel
theorem dX1_take_62 : decode cX1_take 62 = .ok (.invokestatic 43, 3) := by decide +kernel
theorem dX1_take_65 : decode cX1_take 65 = .ok (.putfield 46, 3) := by decide +kernel
theorem dX1_take_68 : decode cX1_take 68 = .ok (.aload_n 0, 1) := by decide +kernel
theorem dX1_take_69 : decode cX1_take 69 = .ok (.aload_n 1, 1) := by decide +kernel
theorem dX1_take_70 : decode cX1_take 70 = .ok (.iload_n 3, 1) := by decide +kernel
theorem dX1_take_71 : decode cX1_take 71 = .ok (.iconst 1, 1) := by decide +kernel
theorem dX1_take_72 : decode cX1_take 72 = .ok (.invokevirtual 35, 3) := by decide +kernel
theorem dX1_take_75 : decode cX1_take 75 = .ok (.putfield 49, 3) := by decide +kernel
theorem dX1_take_78 : decode cX1_take 78 = .ok (.return_, 1) := by decide +kernel

