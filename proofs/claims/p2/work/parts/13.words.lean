theorem q_69 : Cond.initialized RX1 ∈ oh_t := oh_of (i := 69) (by decide +kernel) rfl
theorem q_79 : Cond.initialized RJ9 ∈ oh_t := oh_of (i := 79) (by decide +kernel) rfl
theorem q_108 : Cond.fieldLink RX1 31 "OneHeavyLoad$Land" "settings" "[I" ∈ oh_t := oh_of (i := 108) (by decide +kernel) rfl
theorem q_145 : Cond.fieldLink RX1 15 "OneHeavyLoad$Pack" "axles" "I" ∈ oh_t := oh_of (i := 145) (by decide +kernel) rfl
theorem q_146 : Cond.fieldLink RX1 21 "OneHeavyLoad$Pack" "space" "I" ∈ oh_t := oh_of (i := 146) (by decide +kernel) rfl
theorem q_147 : Cond.fieldLink RX1 28 "OneHeavyLoad$Pack" "fullLength" "I" ∈ oh_t := oh_of (i := 147) (by decide +kernel) rfl
theorem q_149 : Cond.fieldLink RX1 46 "OneHeavyLoad$Pack" "axleLoad" "I" ∈ oh_t := oh_of (i := 149) (by decide +kernel) rfl
theorem q_152 : Cond.fieldLink RX1 49 "OneHeavyLoad$Pack" "sentCoin" "I" ∈ oh_t := oh_of (i := 152) (by decide +kernel) rfl
theorem q_394 : Cond.instanceMethod yX0_bearsAxle ∈ oh_t := oh_of (i := 394) (by decide +kernel) rfl
theorem q_395 : Cond.selects RX0 yX0_bearsAxle yX0_bearsAxle ∈ oh_t := oh_of (i := 395) (by decide +kernel) rfl
theorem q_396 : Cond.code yX0_bearsAxle cX0_bearsAxle 4 (some .int) ∈ oh_t := oh_of (i := 396) (by decide +kernel) rfl
theorem q_402 : Cond.instanceMethod yX0_isPropped ∈ oh_t := oh_of (i := 402) (by decide +kernel) rfl
theorem q_403 : Cond.selects RX0 yX0_isPropped yX0_isPropped ∈ oh_t := oh_of (i := 403) (by decide +kernel) rfl
theorem q_404 : Cond.code yX0_isPropped cX0_isPropped 2 (some .boolean) ∈ oh_t := oh_of (i := 404) (by decide +kernel) rfl
theorem q_406 : Cond.instanceMethod yX0_bearsAll ∈ oh_t := oh_of (i := 406) (by decide +kernel) rfl
theorem q_407 : Cond.selects RX0 yX0_bearsAll yX0_bearsAll ∈ oh_t := oh_of (i := 407) (by decide +kernel) rfl
theorem q_408 : Cond.code yX0_bearsAll cX0_bearsAll 8 (some .int) ∈ oh_t := oh_of (i := 408) (by decide +kernel) rfl
theorem q_684 : Cond.instanceMethod yX0_waggonLength ∈ oh_t := oh_of (i := 684) (by decide +kernel) rfl
theorem q_685 : Cond.selects RX0 yX0_waggonLength yX0_waggonLength ∈ oh_t := oh_of (i := 685) (by decide +kernel) rfl
theorem q_686 : Cond.code yX0_waggonLength cX0_waggonLength 2 (some .int) ∈ oh_t := oh_of (i := 686) (by decide +kernel) rfl
theorem q_707 : Cond.methodLink RX1 9 yX0_ofWaggon ∈ oh_t := oh_of (i := 707) (by decide +kernel) rfl
theorem q_708 : Cond.methodLink RX1 24 yX0_waggonLength ∈ oh_t := oh_of (i := 708) (by decide +kernel) rfl
theorem q_709 : Cond.methodLink RX1 35 yX0_sumOfParts ∈ oh_t := oh_of (i := 709) (by decide +kernel) rfl
theorem q_710 : Cond.instanceMethod yX0_sumOfParts ∈ oh_t := oh_of (i := 710) (by decide +kernel) rfl
theorem q_711 : Cond.selects RX0 yX0_sumOfParts yX0_sumOfParts ∈ oh_t := oh_of (i := 711) (by decide +kernel) rfl
theorem q_712 : Cond.code yX0_sumOfParts cX0_sumOfParts 5 (some .int) ∈ oh_t := oh_of (i := 712) (by decide +kernel) rfl
theorem q_713 : Cond.methodLink RX1 38 yJ9_max_7cf53 ∈ oh_t := oh_of (i := 713) (by decide +kernel) rfl
theorem q_714 : Cond.static yJ9_max_7cf53 ∈ oh_t := oh_of (i := 714) (by decide +kernel) rfl
theorem q_715 : Cond.code yJ9_max_7cf53 cJ9_max_7cf53 2 (some .int) ∈ oh_t := oh_of (i := 715) (by decide +kernel) rfl
theorem q_717 : Cond.static yX6_roundedUp ∈ oh_t := oh_of (i := 717) (by decide +kernel) rfl
theorem q_718 : Cond.code yX6_roundedUp cX6_roundedUp 2 (some .int) ∈ oh_t := oh_of (i := 718) (by decide +kernel) rfl
theorem q_724 : Cond.instanceMethod yX1_strainOn ∈ oh_t := oh_of (i := 724) (by decide +kernel) rfl
theorem q_725 : Cond.selects RX1 yX1_strainOn yX1_strainOn ∈ oh_t := oh_of (i := 725) (by decide +kernel) rfl
theorem q_726 : Cond.code yX1_strainOn cX1_strainOn 2 (some .int) ∈ oh_t := oh_of (i := 726) (by decide +kernel) rfl
theorem q_728 : Cond.static yX6_cut ∈ oh_t := oh_of (i := 728) (by decide +kernel) rfl
theorem q_729 : Cond.code yX6_cut cX6_cut 2 (some .int) ∈ oh_t := oh_of (i := 729) (by decide +kernel) rfl
theorem q_730 : Cond.methodLink RX1 55 yJ9_min_7cf53 ∈ oh_t := oh_of (i := 730) (by decide +kernel) rfl
theorem q_731 : Cond.static yJ9_min_7cf53 ∈ oh_t := oh_of (i := 731) (by decide +kernel) rfl
theorem q_732 : Cond.code yJ9_min_7cf53 cJ9_min_7cf53 2 (some .int) ∈ oh_t := oh_of (i := 732) (by decide +kernel) rfl
theorem q_741 : Cond.methodLink RX1 58 yX0_bearsAxle ∈ oh_t := oh_of (i := 741) (by decide +kernel) rfl
theorem q_742 : Cond.methodLink RX1 61 yX0_ofBridge ∈ oh_t := oh_of (i := 742) (by decide +kernel) rfl
theorem q_743 : Cond.methodLink RX1 64 yX1_strainOn ∈ oh_t := oh_of (i := 743) (by decide +kernel) rfl
theorem q_744 : Cond.methodLink RX1 67 yX0_isPropped ∈ oh_t := oh_of (i := 744) (by decide +kernel) rfl
theorem q_745 : Cond.methodLink RX1 71 yX0_bearsAll ∈ oh_t := oh_of (i := 745) (by decide +kernel) rfl
theorem pdVX0_bearsAll : yX0_bearsAll.cls = RX0 ∧ yX0_bearsAll.cls ≠ "java/lang/invoke/MethodHandle" ∧ yX0_bearsAll.cls ≠ "java/lang/invoke/VarHandle" ∧ (parseMethodDescriptor yX0_bearsAll.desc).map (fun d => d.parameters.length) = some 2 := by decide +kernel
theorem pdVX0_bearsAxle : yX0_bearsAxle.cls = RX0 ∧ yX0_bearsAxle.cls ≠ "java/lang/invoke/MethodHandle" ∧ yX0_bearsAxle.cls ≠ "java/lang/invoke/VarHandle" ∧ (parseMethodDescriptor yX0_bearsAxle.desc).map (fun d => d.parameters.length) = some 1 := by decide +kernel
theorem pdVX0_isPropped : yX0_isPropped.cls = RX0 ∧ yX0_isPropped.cls ≠ "java/lang/invoke/MethodHandle" ∧ yX0_isPropped.cls ≠ "java/lang/invoke/VarHandle" ∧ (parseMethodDescriptor yX0_isPropped.desc).map (fun d => d.parameters.length) = some 1 := by decide +kernel
theorem pdVX0_sumOfParts : yX0_sumOfParts.cls = RX0 ∧ yX0_sumOfParts.cls ≠ "java/lang/invoke/MethodHandle" ∧ yX0_sumOfParts.cls ≠ "java/lang/invoke/VarHandle" ∧ (parseMethodDescriptor yX0_sumOfParts.desc).map (fun d => d.parameters.length) = some 2 := by decide +kernel
theorem pdVX0_waggonLength : yX0_waggonLength.cls = RX0 ∧ yX0_waggonLength.cls ≠ "java/lang/invoke/MethodHandle" ∧ yX0_waggonLength.cls ≠ "java/lang/invoke/VarHandle" ∧ (parseMethodDescriptor yX0_waggonLength.desc).map (fun d => d.parameters.length) = some 1 := by decide +kernel
theorem pdVX1_strainOn : yX1_strainOn.cls = RX1 ∧ yX1_strainOn.cls ≠ "java/lang/invoke/MethodHandle" ∧ yX1_strainOn.cls ≠ "java/lang/invoke/VarHandle" ∧ (parseMethodDescriptor yX1_strainOn.desc).map (fun d => d.parameters.length) = some 1 := by decide +kernel
theorem pdX6_cut : yX6_cut.cls ≠ "java/lang/invoke/MethodHandle" ∧ yX6_cut.cls ≠ "java/lang/invoke/VarHandle" ∧ (parseMethodDescriptor yX6_cut.desc).map (fun d => d.parameters.length) = some 2 := by decide +kernel
theorem pdX6_roundedUp : yX6_roundedUp.cls ≠ "java/lang/invoke/MethodHandle" ∧ yX6_roundedUp.cls ≠ "java/lang/invoke/VarHandle" ∧ (parseMethodDescriptor yX6_roundedUp.desc).map (fun d => d.parameters.length) = some 2 := by decide +kernel
theorem dX1_needsOf_0 : decode cX1_needsOf 0 = .ok (.aload_n 0, 1) := by decide +kernel
theorem dX1_needsOf_1 : decode cX1_needsOf 1 = .ok (.getfield 46, 3) := by decide +kernel
theorem dX1_needsOf_4 : decode cX1_needsOf 4 = .ok (.aload_n 1, 1) := by decide +kernel
theorem dX1_needsOf_5 : decode cX1_needsOf 5 = .ok (.iload_n 2, 1) := by decide +kernel
theorem dX1_needsOf_6 : decode cX1_needsOf 6 = .ok (.invokevirtual 58, 3) := by decide +kernel
theorem dX1_needsOf_9 : decode cX1_needsOf 9 = .ok (.if_icmp .le 5, 3) := by decide +kernel
theorem dX1_needsOf_12 : decode cX1_needsOf 12 = .ok (.iconst 2, 1) := by decide +kernel
theorem dX1_needsOf_13 : decode cX1_needsOf 13 = .ok (.ireturn, 1) := by decide +kernel
theorem dX1_needsOf_14 : decode cX1_needsOf 14 = .ok (.aload_n 0, 1) := by decide +kernel
theorem dX1_needsOf_15 : decode cX1_needsOf 15 = .ok (.aload_n 1, 1) := by decide +kernel
theorem dX1_needsOf_16 : decode cX1_needsOf 16 = .ok (.iload_n 2, 1) := by decide +kernel
theorem dX1_needsOf_17 : decode cX1_needsOf 17 = .ok (.iconst 2, 1) := by decide +kernel
theorem dX1_needsOf_18 : decode cX1_needsOf 18 = .ok (.invokevirtual 61, 3) := by decide +kernel
theorem dX1_needsOf_21 : decode cX1_needsOf 21 = .ok (.invokevirtual 64, 3) := by decide +kernel
theorem dX1_needsOf_24 : decode cX1_needsOf 24 = .ok (.istore_n 3, 1) := by decide +kernel
theorem dX1_needsOf_25 : decode cX1_needsOf 25 = .ok (.aload_n 1, 1) := by decide +kernel
theorem dX1_needsOf_26 : decode cX1_needsOf 26 = .ok (.iload_n 2, 1) := by decide +kernel
theorem dX1_needsOf_27 : decode cX1_needsOf 27 = .ok (.invokevirtual 67, 3) := by decide +kernel
theorem dX1_needsOf_30 : decode cX1_needsOf 30 = .ok (.istore 4, 2) := by decide +kernel
theorem dX1_needsOf_32 : decode cX1_needsOf 32 = .ok (.iload_n 3, 1) := by decide +kernel
theorem dX1_needsOf_33 : decode cX1_needsOf 33 = .ok (.aload_n 1, 1) := by decide +kernel
theorem dX1_needsOf_34 : decode cX1_needsOf 34 = .ok (.iload_n 2, 1) := by decide +kernel
theorem dX1_needsOf_35 : decode cX1_needsOf 35 = .ok (.iload 4, 2) := by decide +kernel
theorem dX1_needsOf_37 : decode cX1_needsOf 37 = .ok (.invokevirtual 71, 3) := by decide +kernel
theorem dX1_needsOf_40 : decode cX1_needsOf 40 = .ok (.if_icmp .gt 5, 3) := by decide +kernel
theorem dX1_needsOf_43 : decode cX1_needsOf 43 = .ok (.iconst 0, 1) := by decide +kernel
theorem dX1_needsOf_44 : decode cX1_needsOf 44 = .ok (.ireturn, 1) := by decide +kernel
theorem dX1_needsOf_45 : decode cX1_needsOf 45 = .ok (.iload 4, 2) := by decide +kernel
theorem dX1_needsOf_47 : decode cX1_needsOf 47 = .ok (.ifCond .ne 13, 3) := by decide +kernel
theorem dX1_needsOf_50 : decode cX1_needsOf 50 = .ok (.aload_n 1, 1) := by decide +kernel
theorem dX1_needsOf_51 : decode cX1_needsOf 51 = .ok (.iload_n 2, 1) := by decide +kernel
theorem dX1_needsOf_52 : decode cX1_needsOf 52 = .ok (.iconst 1, 1) := by decide +kernel
theorem dX1_needsOf_53 : decode cX1_needsOf 53 = .ok (.invokevirtual 61, 3) := by decide +kernel
theorem dX1_needsOf_56 : decode cX1_needsOf 56 = .ok (.iconst 3, 1) := by decide +kernel
theorem dX1_needsOf_57 : decode cX1_needsOf 57 = .ok (.if_icmp .ne 5, 3) := by decide +kernel
theorem dX1_needsOf_60 : decode cX1_needsOf 60 = .ok (.iconst 2, 1) := by decide +kernel
theorem dX1_needsOf_61 : decode cX1_needsOf 61 = .ok (.ireturn, 1) := by decide +kernel
theorem dX1_needsOf_62 : decode cX1_needsOf 62 = .ok (.iload_n 3, 1) := by decide +kernel
theorem dX1_needsOf_63 : decode cX1_needsOf 63 = .ok (.aload_n 1, 1) := by decide +kernel
theorem dX1_needsOf_64 : decode cX1_needsOf 64 = .ok (.iload_n 2, 1) := by decide +kernel
theorem dX1_needsOf_65 : decode cX1_needsOf 65 = .ok (.iconst 1, 1) := by decide +kernel
theorem dX1_needsOf_66 : decode cX1_needsOf 66 = .ok (.invokevirtual 71, 3) := by decide +kernel
theorem dX1_needsOf_69 : decode cX1_needsOf 69 = .ok (.if_icmp .gt 7, 3) := by decide +kernel
theorem dX1_needsOf_72 : decode cX1_needsOf 72 = .ok (.iconst 1, 1) := by decide +kernel
theorem dX1_needsOf_73 : decode cX1_needsOf 73 = .ok (.goto 4, 3) := by decide +kernel
theorem dX1_needsOf_76 : decode cX1_needsOf 76 = .ok (.iconst 2, 1) := by decide +kernel
theorem dX1_needsOf_77 : decode cX1_needsOf 77 = .ok (.ireturn, 1) := by decide +kernel
theorem dX1_strainOn_0 : decode cX1_strainOn 0 = .ok (.aload_n 0, 1) := by decide +kernel
theorem dX1_strainOn_1 : decode cX1_strainOn 1 = .ok (.getfield 15, 3) := by decide +kernel
theorem dX1_strainOn_4 : decode cX1_strainOn 4 = .ok (.iload_n 1, 1) := by decide +kernel
theorem dX1_strainOn_5 : decode cX1_strainOn 5 = .ok (.aload_n 0, 1) := by decide +kernel
theorem dX1_strainOn_6 : decode cX1_strainOn 6 = .ok (.getfield 21, 3) := by decide +kernel
theorem dX1_strainOn_9 : decode cX1_strainOn 9 = .ok (.invokestatic 52, 3) := by decide +kernel
theorem dX1_strainOn_12 : decode cX1_strainOn 12 = .ok (.iconst 1, 1) := by decide +kernel
theorem dX1_strainOn_13 : decode cX1_strainOn 13 = .ok (.iadd, 1) := by decide +kernel
theorem dX1_strainOn_14 : decode cX1_strainOn 14 = .ok (.invokestatic 55, 3) := by decide +kernel
theorem dX1_strainOn_17 : decode cX1_strainOn 17 = .ok (.aload_n 0, 1) := by decide +kernel
theorem dX1_strainOn_18 : decode cX1_strainOn 18 = .ok (.getfield 46, 3) := by decide +kernel
theorem dX1_strainOn_21 : decode cX1_strainOn 21 = .ok (.imul, 1) := by decide +kernel
theorem dX1_strainOn_22 : decode cX1_strainOn 22 = .ok (.ireturn, 1) := by decide +kernel
theorem dX1_take_0 : decode cX1_take 0 = .ok (.aload_n 0, 1) := by decide +kernel
theorem dX1_take_1 : decode cX1_take 1 = .ok (.aload_n 1, 1) := by decide +kernel
theorem dX1_take_2 : decode cX1_take 2 = .ok (.iload_n 2, 1) := by decide +kernel
theorem dX1_take_3 : decode cX1_take 3 = .ok (.iconst 0, 1) := by decide +kernel
theorem dX1_take_4 : decode cX1_take 4 = .ok (.invokevirtual 9, 3) := by decide +kernel
theorem dX1_take_7 : decode cX1_take 7 = .ok (.putfield 15, 3) := by decide +kernel
theorem dX1_take_10 : decode cX1_take 10 = .ok (.aload_n 0, 1) := by decide +kernel
theorem dX1_take_11 : decode cX1_take 11 = .ok (.aload_n 1, 1) := by decide +kernel
theorem dX1_take_12 : decode cX1_take 12 = .ok (.iload_n 2, 1) := by decide +kernel
theorem dX1_take_13 : decode cX1_take 13 = .ok (.iconst 1, 1) := by decide +kernel
theorem dX1_take_14 : decode cX1_take 14 = .ok (.invokevirtual 9, 3) := by decide +kernel
theorem dX1_take_17 : decode cX1_take 17 = .ok (.putfield 21, 3) := by decide +kernel
theorem dX1_take_20 : decode cX1_take 20 = .ok (.aload_n 0, 1) := by decide +kernel
theorem dX1_take_21 : decode cX1_take 21 = .ok (.aload_n 1, 1) := by decide +kernel
theorem dX1_take_22 : decode cX1_take 22 = .ok (.iload_n 2, 1) := by decide +kernel
theorem dX1_take_23 : decode cX1_take 23 = .ok (.invokevirtual 24, 3) := by decide +kernel
theorem dX1_take_26 : decode cX1_take 26 = .ok (.putfield 28, 3) := by decide +kernel
theorem dX1_take_29 : decode cX1_take 29 = .ok (.aload_n 1, 1) := by decide +kernel
theorem dX1_take_30 : decode cX1_take 30 = .ok (.iload_n 2, 1) := by decide +kernel
theorem dX1_take_31 : decode cX1_take 31 = .ok (.iconst 2, 1) := by decide +kernel
theorem dX1_take_32 : decode cX1_take 32 = .ok (.invokevirtual 9, 3) := by decide +kernel
theorem dX1_take_35 : decode cX1_take 35 = .ok (.aload_n 1, 1) := by decide +kernel
theorem dX1_take_36 : decode cX1_take 36 = .ok (.getfield 31, 3) := by decide +kernel
theorem dX1_take_39 : decode cX1_take 39 = .ok (.iconst 0, 1) := by decide +kernel
theorem dX1_take_40 : decode cX1_take 40 = .ok (.iaload, 1) := by decide +kernel
theorem dX1_take_41 : decode cX1_take 41 = .ok (.iadd, 1) := by decide +kernel
theorem dX1_take_42 : decode cX1_take 42 = .ok (.aload_n 1, 1) := by decide +kernel
theorem dX1_take_43 : decode cX1_take 43 = .ok (.iload_n 3, 1) := by decide +kernel
theorem dX1_take_44 : decode cX1_take 44 = .ok (.iconst 0, 1) := by decide +kernel
theorem dX1_take_45 : decode cX1_take 45 = .ok (.invokevirtual 35, 3) := by decide +kernel
theorem dX1_take_48 : decode cX1_take 48 = .ok (.isub, 1) := by decide +kernel
theorem dX1_take_49 : decode cX1_take 49 = .ok (.istore 4, 2) := by decide +kernel
theorem dX1_take_51 : decode cX1_take 51 = .ok (.aload_n 0, 1) := by decide +kernel
theorem dX1_take_52 : decode cX1_take 52 = .ok (.iload 4, 2) := by decide +kernel
theorem dX1_take_54 : decode cX1_take 54 = .ok (.iconst 0, 1) := by decide +kernel
theorem dX1_take_55 : decode cX1_take 55 = .ok (.invokestatic 38, 3) := by decide +kernel
theorem dX1_take_58 : decode cX1_take 58 = .ok (.aload_n 0, 1) := by decide +kernel
theorem dX1_take_59 : decode cX1_take 59 = .ok (.getfield 15, 3) := by decide +kernel
theorem dX1_take_62 : decode cX1_take 62 = .ok (.invokestatic 43, 3) := by decide +kernel
theorem dX1_take_65 : decode cX1_take 65 = .ok (.putfield 46, 3) := by decide +kernel
theorem dX1_take_68 : decode cX1_take 68 = .ok (.aload_n 0, 1) := by decide +kernel
theorem dX1_take_69 : decode cX1_take 69 = .ok (.aload_n 1, 1) := by decide +kernel
theorem dX1_take_70 : decode cX1_take 70 = .ok (.iload_n 3, 1) := by decide +kernel
theorem dX1_take_71 : decode cX1_take 71 = .ok (.iconst 1, 1) := by decide +kernel
theorem dX1_take_72 : decode cX1_take 72 = .ok (.invokevirtual 35, 3) := by decide +kernel
theorem dX1_take_75 : decode cX1_take 75 = .ok (.putfield 49, 3) := by decide +kernel
theorem dX1_take_78 : decode cX1_take 78 = .ok (.return_, 1) := by decide +kernel
theorem dX6_cut_0 : decode cX6_cut 0 = .ok (.iload_n 1, 1) := by decide +kernel
theorem dX6_cut_1 : decode cX6_cut 1 = .ok (.ifCond .gt 7, 3) := by decide +kernel
theorem dX6_cut_4 : decode cX6_cut 4 = .ok (.iconst 0, 1) := by decide +kernel
theorem dX6_cut_5 : decode cX6_cut 5 = .ok (.goto 6, 3) := by decide +kernel
theorem dX6_cut_8 : decode cX6_cut 8 = .ok (.iload_n 0, 1) := by decide +kernel
theorem dX6_cut_9 : decode cX6_cut 9 = .ok (.iload_n 1, 1) := by decide +kernel
theorem dX6_cut_10 : decode cX6_cut 10 = .ok (.idiv, 1) := by decide +kernel
theorem dX6_cut_11 : decode cX6_cut 11 = .ok (.ireturn, 1) := by decide +kernel
theorem dX6_roundedUp_0 : decode cX6_roundedUp 0 = .ok (.iload_n 1, 1) := by decide +kernel
theorem dX6_roundedUp_1 : decode cX6_roundedUp 1 = .ok (.ifCond .gt 7, 3) := by decide +kernel
theorem dX6_roundedUp_4 : decode cX6_roundedUp 4 = .ok (.iconst 0, 1) := by decide +kernel
theorem dX6_roundedUp_5 : decode cX6_roundedUp 5 = .ok (.goto 10, 3) := by decide +kernel
theorem dX6_roundedUp_8 : decode cX6_roundedUp 8 = .ok (.iload_n 0, 1) := by decide +kernel
theorem dX6_roundedUp_9 : decode cX6_roundedUp 9 = .ok (.iload_n 1, 1) := by decide +kernel
theorem dX6_roundedUp_10 : decode cX6_roundedUp 10 = .ok (.iadd, 1) := by decide +kernel
theorem dX6_roundedUp_11 : decode cX6_roundedUp 11 = .ok (.iconst 1, 1) := by decide +kernel
theorem dX6_roundedUp_12 : decode cX6_roundedUp 12 = .ok (.isub, 1) := by decide +kernel
theorem dX6_roundedUp_13 : decode cX6_roundedUp 13 = .ok (.iload_n 1, 1) := by decide +kernel
theorem dX6_roundedUp_14 : decode cX6_roundedUp 14 = .ok (.idiv, 1) := by decide +kernel
theorem dX6_roundedUp_15 : decode cX6_roundedUp 15 = .ok (.ireturn, 1) := by decide +kernel
