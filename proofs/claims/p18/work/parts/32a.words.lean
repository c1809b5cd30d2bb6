theorem q_59 : Cond.selects RX7 yX7_cheapestOf yX7_cheapestOf ∈ oh_t := oh_of (i := 59) (by decide +kernel) rfl
theorem q_62 : Cond.selects RX7 yX7_noWay yX7_noWay ∈ oh_t := oh_of (i := 62) (by decide +kernel) rfl
theorem q_63 : Cond.selects RX7 yX7_firstWrong yX7_firstWrong ∈ oh_t := oh_of (i := 63) (by decide +kernel) rfl
theorem q_991 : Cond.fieldLink RX7 54 "OneHeavyLoadModel" "under" "[I" ∈ oh_t := oh_of (i := 991) (by decide +kernel) rfl
theorem q_992 : Cond.fieldLink RX7 324 "OneHeavyLoadModel" "underCoin" "I" ∈ oh_t := oh_of (i := 992) (by decide +kernel) rfl
theorem q_1001 : Cond.fieldLink RX7 310 "OneHeavyLoadModel" "toldEnd" "I" ∈ oh_t := oh_of (i := 1001) (by decide +kernel) rfl
theorem q_1207 : Cond.constantLong RX7 162 10 ∈ oh_t := oh_of (i := 1207) (by decide +kernel) rfl
theorem q_1342 : Cond.methodLink RX7 301 yX7_again ∈ oh_t := oh_of (i := 1342) (by decide +kernel) rfl
theorem q_1343 : Cond.instanceMethod yX7_again ∈ oh_t := oh_of (i := 1343) (by decide +kernel) rfl
theorem q_1344 : Cond.selects RX7 yX7_again yX7_again ∈ oh_t := oh_of (i := 1344) (by decide +kernel) rfl
theorem q_1345 : Cond.code yX7_again cX7_again 7 (some .int) ∈ oh_t := oh_of (i := 1345) (by decide +kernel) rfl
theorem q_1346 : Cond.constantLong RX7 305 20 ∈ oh_t := oh_of (i := 1346) (by decide +kernel) rfl
theorem q_1347 : Cond.methodLink RX7 307 yX7_cheapestOf ∈ oh_t := oh_of (i := 1347) (by decide +kernel) rfl
theorem q_1349 : Cond.instanceMethod yX7_cheapestOf ∈ oh_t := oh_of (i := 1349) (by decide +kernel) rfl
theorem q_1350 : Cond.code yX7_cheapestOf cX7_cheapestOf 6 (some .int) ∈ oh_t := oh_of (i := 1350) (by decide +kernel) rfl
theorem q_1373 : Cond.methodLink RX7 313 yX7_noWay ∈ oh_t := oh_of (i := 1373) (by decide +kernel) rfl
theorem q_1375 : Cond.instanceMethod yX7_noWay ∈ oh_t := oh_of (i := 1375) (by decide +kernel) rfl
theorem q_1376 : Cond.code yX7_noWay cX7_noWay 6 (some .int) ∈ oh_t := oh_of (i := 1376) (by decide +kernel) rfl
theorem q_1377 : Cond.methodLink RX7 316 yX7_firstWrong ∈ oh_t := oh_of (i := 1377) (by decide +kernel) rfl
theorem q_1379 : Cond.instanceMethod yX7_firstWrong ∈ oh_t := oh_of (i := 1379) (by decide +kernel) rfl
theorem q_1380 : Cond.code yX7_firstWrong cX7_firstWrong 10 (some .int) ∈ oh_t := oh_of (i := 1380) (by decide +kernel) rfl
theorem q_1385 : Cond.constantLong RX7 319 3 ∈ oh_t := oh_of (i := 1385) (by decide +kernel) rfl
theorem q_1386 : Cond.methodLink RX7 321 yX7_bits ∈ oh_t := oh_of (i := 1386) (by decide +kernel) rfl
theorem q_1387 : Cond.static yX7_bits ∈ oh_t := oh_of (i := 1387) (by decide +kernel) rfl
theorem q_1388 : Cond.code yX7_bits cX7_bits 3 (some .int) ∈ oh_t := oh_of (i := 1388) (by decide +kernel) rfl
theorem q_1445 : Cond.constantLong RX7 344 16 ∈ oh_t := oh_of (i := 1445) (by decide +kernel) rfl
theorem pdVX7_again : yX7_again.cls = RX7 ∧ yX7_again.cls ≠ "java/lang/invoke/MethodHandle" ∧ yX7_again.cls ≠ "java/lang/invoke/VarHandle" ∧ (parseMethodDescriptor yX7_again.desc).map (fun d => d.parameters.length) = some 5 := by decide +kernel
theorem pdX7_bits : yX7_bits.cls ≠ "java/lang/invoke/MethodHandle" ∧ yX7_bits.cls ≠ "java/lang/invoke/VarHandle" ∧ (parseMethodDescriptor yX7_bits.desc).map (fun d => d.parameters.length) = some 1 := by decide +kernel
theorem pdVX7_cheapestOf : yX7_cheapestOf.cls = RX7 ∧ yX7_cheapestOf.cls ≠ "java/lang/invoke/MethodHandle" ∧ yX7_cheapestOf.cls ≠ "java/lang/invoke/VarHandle" ∧ (parseMethodDescriptor yX7_cheapestOf.desc).map (fun d => d.parameters.length) = some 5 := by decide +kernel
theorem pdVX7_firstWrong : yX7_firstWrong.cls = RX7 ∧ yX7_firstWrong.cls ≠ "java/lang/invoke/MethodHandle" ∧ yX7_firstWrong.cls ≠ "java/lang/invoke/VarHandle" ∧ (parseMethodDescriptor yX7_firstWrong.desc).map (fun d => d.parameters.length) = some 5 := by decide +kernel
theorem pdVX7_noWay : yX7_noWay.cls = RX7 ∧ yX7_noWay.cls ≠ "java/lang/invoke/MethodHandle" ∧ yX7_noWay.cls ≠ "java/lang/invoke/VarHandle" ∧ (parseMethodDescriptor yX7_noWay.desc).map (fun d => d.parameters.length) = some 5 := by decide +kernel
theorem dX7_again_0 : decode cX7_again 0 = .ok (.aload_n 0, 1) := by decide +kernel
theorem dX7_again_1 : decode cX7_again 1 = .ok (.iload_n 1, 1) := by decide +kernel
theorem dX7_again_2 : decode cX7_again 2 = .ok (.iload_n 2, 1) := by decide +kernel
theorem dX7_again_3 : decode cX7_again 3 = .ok (.invokevirtual 260, 3) := by decide +kernel
theorem dX7_again_6 : decode cX7_again 6 = .ok (.ifCond .eq 31, 3) := by decide +kernel
theorem dX7_again_9 : decode cX7_again 9 = .ok (.iload_n 3, 1) := by decide +kernel
theorem dX7_again_10 : decode cX7_again 10 = .ok (.invokestatic 113, 3) := by decide +kernel
theorem dX7_again_13 : decode cX7_again 13 = .ok (.ifCond .eq 24, 3) := by decide +kernel
theorem dX7_again_16 : decode cX7_again 16 = .ok (.iload 4, 2) := by decide +kernel
theorem dX7_again_18 : decode cX7_again 18 = .ok (.invokestatic 113, 3) := by decide +kernel
theorem dX7_again_21 : decode cX7_again 21 = .ok (.ifCond .eq 16, 3) := by decide +kernel
theorem dX7_again_24 : decode cX7_again 24 = .ok (.iload 5, 2) := by decide +kernel
theorem dX7_again_26 : decode cX7_again 26 = .ok (.i2l, 1) := by decide +kernel
theorem dX7_again_27 : decode cX7_again 27 = .ok (.lconst 1, 1) := by decide +kernel
theorem dX7_again_28 : decode cX7_again 28 = .ok (.ldc2_w 305, 3) := by decide +kernel
theorem dX7_again_31 : decode cX7_again 31 = .ok (.invokestatic 62, 3) := by decide +kernel
theorem dX7_again_34 : decode cX7_again 34 = .ok (.ifCond .ne 10, 3) := by decide +kernel
theorem dX7_again_37 : decode cX7_again 37 = .ok (.aload_n 0, 1) := by decide +kernel
theorem dX7_again_38 : decode cX7_again 38 = .ok (.bipush (-2), 2) := by decide +kernel
theorem dX7_again_40 : decode cX7_again 40 = .ok (.invokevirtual 89, 3) := by decide +kernel
theorem dX7_again_43 : decode cX7_again 43 = .ok (.ireturn, 1) := by decide +kernel
theorem dX7_again_44 : decode cX7_again 44 = .ok (.aload_n 0, 1) := by decide +kernel
theorem dX7_again_45 : decode cX7_again 45 = .ok (.iload_n 1, 1) := by decide +kernel
theorem dX7_again_46 : decode cX7_again 46 = .ok (.iload_n 2, 1) := by decide +kernel
theorem dX7_again_47 : decode cX7_again 47 = .ok (.iload_n 3, 1) := by decide +kernel
theorem dX7_again_48 : decode cX7_again 48 = .ok (.iload 4, 2) := by decide +kernel
theorem dX7_again_50 : decode cX7_again 50 = .ok (.iload 5, 2) := by decide +kernel
theorem dX7_again_52 : decode cX7_again 52 = .ok (.invokevirtual 307, 3) := by decide +kernel
theorem dX7_again_55 : decode cX7_again 55 = .ok (.istore 6, 2) := by decide +kernel
theorem dX7_again_57 : decode cX7_again 57 = .ok (.iload 6, 2) := by decide +kernel
theorem dX7_again_59 : decode cX7_again 59 = .ok (.iconst (-1), 1) := by decide +kernel
theorem dX7_again_60 : decode cX7_again 60 = .ok (.if_icmp .ne 12, 3) := by decide +kernel
theorem dX7_again_63 : decode cX7_again 63 = .ok (.aload_n 0, 1) := by decide +kernel
theorem dX7_again_64 : decode cX7_again 64 = .ok (.bipush (-5), 2) := by decide +kernel
theorem dX7_again_66 : decode cX7_again 66 = .ok (.invokevirtual 89, 3) := by decide +kernel
theorem dX7_again_69 : decode cX7_again 69 = .ok (.goto 5, 3) := by decide +kernel
theorem dX7_again_72 : decode cX7_again 72 = .ok (.iload 6, 2) := by decide +kernel
theorem dX7_again_74 : decode cX7_again 74 = .ok (.ireturn, 1) := by decide +kernel
theorem dX7_begin_0 : decode cX7_begin 0 = .ok (.aload_n 0, 1) := by decide +kernel
theorem dX7_begin_1 : decode cX7_begin 1 = .ok (.iload_n 1, 1) := by decide +kernel
theorem dX7_begin_2 : decode cX7_begin 2 = .ok (.iload_n 2, 1) := by decide +kernel
theorem dX7_begin_3 : decode cX7_begin 3 = .ok (.invokevirtual 260, 3) := by decide +kernel
theorem dX7_begin_6 : decode cX7_begin 6 = .ok (.ifCond .eq 18, 3) := by decide +kernel
theorem dX7_begin_9 : decode cX7_begin 9 = .ok (.iload_n 3, 1) := by decide +kernel
theorem dX7_begin_10 : decode cX7_begin 10 = .ok (.invokestatic 113, 3) := by decide +kernel
theorem dX7_begin_13 : decode cX7_begin 13 = .ok (.ifCond .eq 11, 3) := by decide +kernel
theorem dX7_begin_16 : decode cX7_begin 16 = .ok (.iload 4, 2) := by decide +kernel
theorem dX7_begin_18 : decode cX7_begin 18 = .ok (.invokestatic 113, 3) := by decide +kernel
theorem dX7_begin_21 : decode cX7_begin 21 = .ok (.ifCond .ne 10, 3) := by decide +kernel
theorem dX7_begin_24 : decode cX7_begin 24 = .ok (.aload_n 0, 1) := by decide +kernel
theorem dX7_begin_25 : decode cX7_begin 25 = .ok (.bipush (-2), 2) := by decide +kernel
theorem dX7_begin_27 : decode cX7_begin 27 = .ok (.invokevirtual 89, 3) := by decide +kernel
theorem dX7_begin_30 : decode cX7_begin 30 = .ok (.ireturn, 1) := by decide +kernel
theorem dX7_begin_31 : decode cX7_begin 31 = .ok (.aload_n 0, 1) := by decide +kernel
theorem dX7_begin_32 : decode cX7_begin 32 = .ok (.getfield 54, 3) := by decide +kernel
theorem dX7_begin_35 : decode cX7_begin 35 = .ok (.iconst 0, 1) := by decide +kernel
theorem dX7_begin_36 : decode cX7_begin 36 = .ok (.iconst 1, 1) := by decide +kernel
theorem dX7_begin_37 : decode cX7_begin 37 = .ok (.iastore, 1) := by decide +kernel
theorem dX7_begin_38 : decode cX7_begin 38 = .ok (.aload_n 0, 1) := by decide +kernel
theorem dX7_begin_39 : decode cX7_begin 39 = .ok (.getfield 54, 3) := by decide +kernel
theorem dX7_begin_42 : decode cX7_begin 42 = .ok (.iconst 1, 1) := by decide +kernel
theorem dX7_begin_43 : decode cX7_begin 43 = .ok (.iload_n 1, 1) := by decide +kernel
theorem dX7_begin_44 : decode cX7_begin 44 = .ok (.iastore, 1) := by decide +kernel
theorem dX7_begin_45 : decode cX7_begin 45 = .ok (.aload_n 0, 1) := by decide +kernel
theorem dX7_begin_46 : decode cX7_begin 46 = .ok (.getfield 54, 3) := by decide +kernel
theorem dX7_begin_49 : decode cX7_begin 49 = .ok (.iconst 2, 1) := by decide +kernel
theorem dX7_begin_50 : decode cX7_begin 50 = .ok (.iload_n 2, 1) := by decide +kernel
theorem dX7_begin_51 : decode cX7_begin 51 = .ok (.iastore, 1) := by decide +kernel
theorem dX7_begin_52 : decode cX7_begin 52 = .ok (.aload_n 0, 1) := by decide +kernel
theorem dX7_begin_53 : decode cX7_begin 53 = .ok (.getfield 54, 3) := by decide +kernel
theorem dX7_begin_56 : decode cX7_begin 56 = .ok (.iconst 3, 1) := by decide +kernel
theorem dX7_begin_57 : decode cX7_begin 57 = .ok (.iload_n 3, 1) := by decide +kernel
theorem dX7_begin_58 : decode cX7_begin 58 = .ok (.iastore, 1) := by decide +kernel
theorem dX7_begin_59 : decode cX7_begin 59 = .ok (.aload_n 0, 1) := by decide +kernel
theorem dX7_begin_60 : decode cX7_begin 60 = .ok (.getfield 54, 3) := by decide +kernel
theorem dX7_begin_63 : decode cX7_begin 63 = .ok (.iconst 4, 1) := by decide +kernel
theorem dX7_begin_64 : decode cX7_begin 64 = .ok (.iload 4, 2) := by decide +kernel
theorem dX7_begin_66 : decode cX7_begin 66 = .ok (.iastore, 1) := by decide +kernel
theorem dX7_begin_67 : decode cX7_begin 67 = .ok (.aload_n 0, 1) := by decide +kernel
theorem dX7_begin_68 : decode cX7_begin 68 = .ok (.getfield 54, 3) := by decide +kernel
theorem dX7_begin_71 : decode cX7_begin 71 = .ok (.iconst 5, 1) := by decide +kernel
theorem dX7_begin_72 : decode cX7_begin 72 = .ok (.iconst 0, 1) := by decide +kernel
theorem dX7_begin_73 : decode cX7_begin 73 = .ok (.iastore, 1) := by decide +kernel
theorem dX7_begin_74 : decode cX7_begin 74 = .ok (.aload_n 0, 1) := by decide +kernel
theorem dX7_begin_75 : decode cX7_begin 75 = .ok (.getfield 54, 3) := by decide +kernel
theorem dX7_begin_78 : decode cX7_begin 78 = .ok (.bipush 6, 2) := by decide +kernel
theorem dX7_begin_80 : decode cX7_begin 80 = .ok (.iconst 0, 1) := by decide +kernel
theorem dX7_begin_81 : decode cX7_begin 81 = .ok (.iastore, 1) := by decide +kernel
theorem dX7_begin_82 : decode cX7_begin 82 = .ok (.aload_n 0, 1) := by decide +kernel
theorem dX7_begin_83 : decode cX7_begin 83 = .ok (.aload_n 0, 1) := by decide +kernel
theorem dX7_begin_84 : decode cX7_begin 84 = .ok (.iload_n 2, 1) := by decide +kernel
theorem dX7_begin_85 : decode cX7_begin 85 = .ok (.invokevirtual 298, 3) := by decide +kernel
theorem dX7_begin_88 : decode cX7_begin 88 = .ok (.putfield 324, 3) := by decide +kernel
theorem dX7_begin_91 : decode cX7_begin 91 = .ok (.iconst 1, 1) := by decide +kernel
theorem dX7_begin_92 : decode cX7_begin 92 = .ok (.ireturn, 1) := by decide +kernel
theorem dX7_best_0 : decode cX7_best 0 = .ok (.iload_n 1, 1) := by decide +kernel
theorem dX7_best_1 : decode cX7_best 1 = .ok (.invokestatic 113, 3) := by decide +kernel
theorem dX7_best_4 : decode cX7_best 4 = .ok (.ifCond .eq 22, 3) := by decide +kernel
theorem dX7_best_7 : decode cX7_best 7 = .ok (.iload_n 2, 1) := by decide +kernel
theorem dX7_best_8 : decode cX7_best 8 = .ok (.invokestatic 113, 3) := by decide +kernel
theorem dX7_best_11 : decode cX7_best 11 = .ok (.ifCond .eq 15, 3) := by decide +kernel
theorem dX7_best_14 : decode cX7_best 14 = .ok (.iload_n 3, 1) := by decide +kernel
theorem dX7_best_15 : decode cX7_best 15 = .ok (.i2l, 1) := by decide +kernel
theorem dX7_best_16 : decode cX7_best 16 = .ok (.lconst 0, 1) := by decide +kernel
theorem dX7_best_17 : decode cX7_best 17 = .ok (.ldc2_w 134, 3) := by decide +kernel
theorem dX7_best_20 : decode cX7_best 20 = .ok (.invokestatic 62, 3) := by decide +kernel
theorem dX7_best_23 : decode cX7_best 23 = .ok (.ifCond .ne 10, 3) := by decide +kernel
theorem dX7_best_26 : decode cX7_best 26 = .ok (.aload_n 0, 1) := by decide +kernel
theorem dX7_best_27 : decode cX7_best 27 = .ok (.bipush (-2), 2) := by decide +kernel
theorem dX7_best_29 : decode cX7_best 29 = .ok (.invokevirtual 89, 3) := by decide +kernel
theorem dX7_best_32 : decode cX7_best 32 = .ok (.ireturn, 1) := by decide +kernel
theorem dX7_best_33 : decode cX7_best 33 = .ok (.iconst (-1), 1) := by decide +kernel
theorem dX7_best_34 : decode cX7_best 34 = .ok (.istore 4, 2) := by decide +kernel
theorem dX7_best_36 : decode cX7_best 36 = .ok (.iconst 0, 1) := by decide +kernel
theorem dX7_best_37 : decode cX7_best 37 = .ok (.istore 5, 2) := by decide +kernel
theorem dX7_best_39 : decode cX7_best 39 = .ok (.iconst 0, 1) := by decide +kernel
theorem dX7_best_40 : decode cX7_best 40 = .ok (.istore 6, 2) := by decide +kernel
theorem dX7_best_42 : decode cX7_best 42 = .ok (.iload 6, 2) := by decide +kernel
theorem dX7_best_44 : decode cX7_best 44 = .ok (.aload_n 0, 1) := by decide +kernel
theorem dX7_best_45 : decode cX7_best 45 = .ok (.getfield 73, 3) := by decide +kernel
theorem dX7_best_48 : decode cX7_best 48 = .ok (.if_icmp .ge 75, 3) := by decide +kernel
theorem dX7_best_51 : decode cX7_best 51 = .ok (.iconst 0, 1) := by decide +kernel
theorem dX7_best_52 : decode cX7_best 52 = .ok (.istore 7, 2) := by decide +kernel
theorem dX7_best_54 : decode cX7_best 54 = .ok (.iload 7, 2) := by decide +kernel
theorem dX7_best_56 : decode cX7_best 56 = .ok (.iconst 1, 1) := by decide +kernel
theorem dX7_best_57 : decode cX7_best 57 = .ok (.aload_n 0, 1) := by decide +kernel
theorem dX7_best_58 : decode cX7_best 58 = .ok (.getfield 80, 3) := by decide +kernel
theorem dX7_best_61 : decode cX7_best 61 = .ok (.ishl, 1) := by decide +kernel
theorem dX7_best_62 : decode cX7_best 62 = .ok (.if_icmp .ge 55, 3) := by decide +kernel
theorem dX7_best_65 : decode cX7_best 65 = .ok (.aload_n 0, 1) := by decide +kernel
theorem dX7_best_66 : decode cX7_best 66 = .ok (.iload 6, 2) := by decide +kernel
theorem dX7_best_68 : decode cX7_best 68 = .ok (.iload 7, 2) := by decide +kernel
theorem dX7_best_70 : decode cX7_best 70 = .ok (.iload_n 1, 1) := by decide +kernel
theorem dX7_best_71 : decode cX7_best 71 = .ok (.iload_n 2, 1) := by decide +kernel
theorem dX7_best_72 : decode cX7_best 72 = .ok (.iconst 1, 1) := by decide +kernel
theorem dX7_best_73 : decode cX7_best 73 = .ok (.invokevirtual 307, 3) := by decide +kernel
theorem dX7_best_76 : decode cX7_best 76 = .ok (.istore 8, 2) := by decide +kernel
theorem dX7_best_78 : decode cX7_best 78 = .ok (.iload 8, 2) := by decide +kernel
theorem dX7_best_80 : decode cX7_best 80 = .ok (.iconst (-1), 1) := by decide +kernel
theorem dX7_best_81 : decode cX7_best 81 = .ok (.if_icmp .eq 30, 3) := by decide +kernel
theorem dX7_best_84 : decode cX7_best 84 = .ok (.iload 4, 2) := by decide +kernel
theorem dX7_best_86 : decode cX7_best 86 = .ok (.iconst (-1), 1) := by decide +kernel
theorem dX7_best_87 : decode cX7_best 87 = .ok (.if_icmp .eq 10, 3) := by decide +kernel
theorem dX7_best_90 : decode cX7_best 90 = .ok (.iload 8, 2) := by decide +kernel
theorem dX7_best_92 : decode cX7_best 92 = .ok (.iload 5, 2) := by decide +kernel
theorem dX7_best_94 : decode cX7_best 94 = .ok (.if_icmp .ge 17, 3) := by decide +kernel
theorem dX7_best_97 : decode cX7_best 97 = .ok (.bipush 100, 2) := by decide +kernel
theorem dX7_best_99 : decode cX7_best 99 = .ok (.iload 6, 2) := by decide +kernel
theorem dX7_best_101 : decode cX7_best 101 = .ok (.imul, 1) := by decide +kernel
theorem dX7_best_102 : decode cX7_best 102 = .ok (.iload 7, 2) := by decide +kernel
theorem dX7_best_104 : decode cX7_best 104 = .ok (.iadd, 1) := by decide +kernel
theorem dX7_best_105 : decode cX7_best 105 = .ok (.istore 4, 2) := by decide +kernel
theorem dX7_best_107 : decode cX7_best 107 = .ok (.iload 8, 2) := by decide +kernel
theorem dX7_best_109 : decode cX7_best 109 = .ok (.istore 5, 2) := by decide +kernel
theorem dX7_best_111 : decode cX7_best 111 = .ok (.iinc 7 1, 3) := by decide +kernel
theorem dX7_best_114 : decode cX7_best 114 = .ok (.goto (-60), 3) := by decide +kernel
theorem dX7_best_117 : decode cX7_best 117 = .ok (.iinc 6 1, 3) := by decide +kernel
theorem dX7_best_120 : decode cX7_best 120 = .ok (.goto (-78), 3) := by decide +kernel
theorem dX7_best_123 : decode cX7_best 123 = .ok (.iload 4, 2) := by decide +kernel
theorem dX7_best_125 : decode cX7_best 125 = .ok (.iconst (-1), 1) := by decide +kernel
theorem dX7_best_126 : decode cX7_best 126 = .ok (.if_icmp .ne 10, 3) := by decide +kernel
theorem dX7_best_129 : decode cX7_best 129 = .ok (.aload_n 0, 1) := by decide +kernel
theorem dX7_best_130 : decode cX7_best 130 = .ok (.bipush (-5), 2) := by decide +kernel
theorem dX7_best_132 : decode cX7_best 132 = .ok (.invokevirtual 89, 3) := by decide +kernel
theorem dX7_best_135 : decode cX7_best 135 = .ok (.ireturn, 1) := by decide +kernel
theorem dX7_best_136 : decode cX7_best 136 = .ok (.iload_n 3, 1) := by decide +kernel
theorem dX7_best_137 : decode cX7_best 137 = .ok (.ifCond .ne 11, 3) := by decide +kernel
theorem dX7_best_140 : decode cX7_best 140 = .ok (.iload 4, 2) := by decide +kernel
theorem dX7_best_142 : decode cX7_best 142 = .ok (.bipush 100, 2) := by decide +kernel
theorem dX7_best_144 : decode cX7_best 144 = .ok (.idiv, 1) := by decide +kernel
theorem dX7_best_145 : decode cX7_best 145 = .ok (.goto 18, 3) := by decide +kernel
theorem dX7_best_148 : decode cX7_best 148 = .ok (.iload_n 3, 1) := by decide +kernel
theorem dX7_best_149 : decode cX7_best 149 = .ok (.iconst 1, 1) := by decide +kernel
theorem dX7_best_150 : decode cX7_best 150 = .ok (.if_icmp .ne 11, 3) := by decide +kernel
theorem dX7_best_153 : decode cX7_best 153 = .ok (.iload 4, 2) := by decide +kernel
theorem dX7_best_155 : decode cX7_best 155 = .ok (.bipush 100, 2) := by decide +kernel
theorem dX7_best_157 : decode cX7_best 157 = .ok (.irem, 1) := by decide +kernel
theorem dX7_best_158 : decode cX7_best 158 = .ok (.goto 5, 3) := by decide +kernel
theorem dX7_best_161 : decode cX7_best 161 = .ok (.iload 5, 2) := by decide +kernel
theorem dX7_best_163 : decode cX7_best 163 = .ok (.ireturn, 1) := by decide +kernel
theorem dX7_cheapest_0 : decode cX7_cheapest 0 = .ok (.aload_n 0, 1) := by decide +kernel
theorem dX7_cheapest_1 : decode cX7_cheapest 1 = .ok (.iload_n 1, 1) := by decide +kernel
theorem dX7_cheapest_2 : decode cX7_cheapest 2 = .ok (.iload_n 2, 1) := by decide +kernel
theorem dX7_cheapest_3 : decode cX7_cheapest 3 = .ok (.iload_n 3, 1) := by decide +kernel
theorem dX7_cheapest_4 : decode cX7_cheapest 4 = .ok (.iload 4, 2) := by decide +kernel
theorem dX7_cheapest_6 : decode cX7_cheapest 6 = .ok (.iconst 1, 1) := by decide +kernel
theorem dX7_cheapest_7 : decode cX7_cheapest 7 = .ok (.invokevirtual 301, 3) := by decide +kernel
theorem dX7_cheapest_10 : decode cX7_cheapest 10 = .ok (.ireturn, 1) := by decide +kernel
theorem dX7_fewest_0 : decode cX7_fewest 0 = .ok (.aload_n 0, 1) := by decide +kernel
theorem dX7_fewest_1 : decode cX7_fewest 1 = .ok (.iload_n 1, 1) := by decide +kernel
theorem dX7_fewest_2 : decode cX7_fewest 2 = .ok (.invokevirtual 76, 3) := by decide +kernel
theorem dX7_fewest_5 : decode cX7_fewest 5 = .ok (.ifCond .eq 17, 3) := by decide +kernel
theorem dX7_fewest_8 : decode cX7_fewest 8 = .ok (.iload_n 2, 1) := by decide +kernel
theorem dX7_fewest_9 : decode cX7_fewest 9 = .ok (.invokestatic 113, 3) := by decide +kernel
theorem dX7_fewest_12 : decode cX7_fewest 12 = .ok (.ifCond .eq 10, 3) := by decide +kernel
theorem dX7_fewest_15 : decode cX7_fewest 15 = .ok (.iload_n 3, 1) := by decide +kernel
theorem dX7_fewest_16 : decode cX7_fewest 16 = .ok (.invokestatic 113, 3) := by decide +kernel
theorem dX7_fewest_19 : decode cX7_fewest 19 = .ok (.ifCond .ne 10, 3) := by decide +kernel
theorem dX7_fewest_22 : decode cX7_fewest 22 = .ok (.aload_n 0, 1) := by decide +kernel
theorem dX7_fewest_23 : decode cX7_fewest 23 = .ok (.bipush (-2), 2) := by decide +kernel
theorem dX7_fewest_25 : decode cX7_fewest 25 = .ok (.invokevirtual 89, 3) := by decide +kernel
theorem dX7_fewest_28 : decode cX7_fewest 28 = .ok (.ireturn, 1) := by decide +kernel
theorem dX7_fewest_29 : decode cX7_fewest 29 = .ok (.iconst 0, 1) := by decide +kernel
theorem dX7_fewest_30 : decode cX7_fewest 30 = .ok (.istore 4, 2) := by decide +kernel
theorem dX7_fewest_32 : decode cX7_fewest 32 = .ok (.iload 4, 2) := by decide +kernel
theorem dX7_fewest_34 : decode cX7_fewest 34 = .ok (.aload_n 0, 1) := by decide +kernel
theorem dX7_fewest_35 : decode cX7_fewest 35 = .ok (.getfield 80, 3) := by decide +kernel
theorem dX7_fewest_38 : decode cX7_fewest 38 = .ok (.if_icmp .gt 56, 3) := by decide +kernel
theorem dX7_fewest_41 : decode cX7_fewest 41 = .ok (.iconst 0, 1) := by decide +kernel
theorem dX7_fewest_42 : decode cX7_fewest 42 = .ok (.istore 5, 2) := by decide +kernel
theorem dX7_fewest_44 : decode cX7_fewest 44 = .ok (.iload 5, 2) := by decide +kernel
theorem dX7_fewest_46 : decode cX7_fewest 46 = .ok (.iconst 1, 1) := by decide +kernel
theorem dX7_fewest_47 : decode cX7_fewest 47 = .ok (.aload_n 0, 1) := by decide +kernel
theorem dX7_fewest_48 : decode cX7_fewest 48 = .ok (.getfield 80, 3) := by decide +kernel
theorem dX7_fewest_51 : decode cX7_fewest 51 = .ok (.ishl, 1) := by decide +kernel
theorem dX7_fewest_52 : decode cX7_fewest 52 = .ok (.if_icmp .ge 36, 3) := by decide +kernel
theorem dX7_fewest_55 : decode cX7_fewest 55 = .ok (.iload 5, 2) := by decide +kernel
theorem dX7_fewest_57 : decode cX7_fewest 57 = .ok (.invokestatic 321, 3) := by decide +kernel
theorem dX7_fewest_60 : decode cX7_fewest 60 = .ok (.iload 4, 2) := by decide +kernel
theorem dX7_fewest_62 : decode cX7_fewest 62 = .ok (.if_icmp .ne 20, 3) := by decide +kernel
theorem dX7_fewest_65 : decode cX7_fewest 65 = .ok (.aload_n 0, 1) := by decide +kernel
theorem dX7_fewest_66 : decode cX7_fewest 66 = .ok (.iload_n 1, 1) := by decide +kernel
theorem dX7_fewest_67 : decode cX7_fewest 67 = .ok (.iload 5, 2) := by decide +kernel
theorem dX7_fewest_69 : decode cX7_fewest 69 = .ok (.iload_n 2, 1) := by decide +kernel
theorem dX7_fewest_70 : decode cX7_fewest 70 = .ok (.iload_n 3, 1) := by decide +kernel
theorem dX7_fewest_71 : decode cX7_fewest 71 = .ok (.iconst 1, 1) := by decide +kernel
theorem dX7_fewest_72 : decode cX7_fewest 72 = .ok (.invokevirtual 307, 3) := by decide +kernel
theorem dX7_fewest_75 : decode cX7_fewest 75 = .ok (.iconst (-1), 1) := by decide +kernel
theorem dX7_fewest_76 : decode cX7_fewest 76 = .ok (.if_icmp .eq 6, 3) := by decide +kernel
theorem dX7_fewest_79 : decode cX7_fewest 79 = .ok (.iload 5, 2) := by decide +kernel
theorem dX7_fewest_81 : decode cX7_fewest 81 = .ok (.ireturn, 1) := by decide +kernel
theorem dX7_fewest_82 : decode cX7_fewest 82 = .ok (.iinc 5 1, 3) := by decide +kernel
theorem dX7_fewest_85 : decode cX7_fewest 85 = .ok (.goto (-41), 3) := by decide +kernel
theorem dX7_fewest_88 : decode cX7_fewest 88 = .ok (.iinc 4 1, 3) := by decide +kernel
theorem dX7_fewest_91 : decode cX7_fewest 91 = .ok (.goto (-59), 3) := by decide +kernel
theorem dX7_fewest_94 : decode cX7_fewest 94 = .ok (.aload_n 0, 1) := by decide +kernel
theorem dX7_fewest_95 : decode cX7_fewest 95 = .ok (.bipush (-5), 2) := by decide +kernel
theorem dX7_fewest_97 : decode cX7_fewest 97 = .ok (.invokevirtual 89, 3) := by decide +kernel
theorem dX7_fewest_100 : decode cX7_fewest 100 = .ok (.ireturn, 1) := by decide +kernel
theorem dX7_firstWrong_0 : decode cX7_firstWrong 0 = .ok (.iload_n 3, 1) := by decide +kernel
theorem dX7_firstWrong_1 : decode cX7_firstWrong 1 = .ok (.istore 6, 2) := by decide +kernel
theorem dX7_firstWrong_3 : decode cX7_firstWrong 3 = .ok (.iconst 0, 1) := by decide +kernel
theorem dX7_firstWrong_4 : decode cX7_firstWrong 4 = .ok (.istore 7, 2) := by decide +kernel
theorem dX7_firstWrong_6 : decode cX7_firstWrong 6 = .ok (.iload 7, 2) := by decide +kernel
theorem dX7_firstWrong_8 : decode cX7_firstWrong 8 = .ok (.iload 5, 2) := by decide +kernel
theorem dX7_firstWrong_10 : decode cX7_firstWrong 10 = .ok (.if_icmp .ge 140, 3) := by decide +kernel
theorem dX7_firstWrong_13 : decode cX7_firstWrong 13 = .ok (.aload_n 0, 1) := by decide +kernel
theorem dX7_firstWrong_14 : decode cX7_firstWrong 14 = .ok (.getfield 21, 3) := by decide +kernel
theorem dX7_firstWrong_17 : decode cX7_firstWrong 17 = .ok (.iload 4, 2) := by decide +kernel
theorem dX7_firstWrong_19 : decode cX7_firstWrong 19 = .ok (.aaload, 1) := by decide +kernel
theorem dX7_firstWrong_20 : decode cX7_firstWrong 20 = .ok (.iload 7, 2) := by decide +kernel
theorem dX7_firstWrong_22 : decode cX7_firstWrong 22 = .ok (.laload, 1) := by decide +kernel
theorem dX7_firstWrong_23 : decode cX7_firstWrong 23 = .ok (.lconst 0, 1) := by decide +kernel
theorem dX7_firstWrong_24 : decode cX7_firstWrong 24 = .ok (.aload_n 0, 1) := by decide +kernel
theorem dX7_firstWrong_25 : decode cX7_firstWrong 25 = .ok (.getfield 66, 3) := by decide +kernel
theorem dX7_firstWrong_28 : decode cX7_firstWrong 28 = .ok (.iconst 1, 1) := by decide +kernel
theorem dX7_firstWrong_29 : decode cX7_firstWrong 29 = .ok (.isub, 1) := by decide +kernel
theorem dX7_firstWrong_30 : decode cX7_firstWrong 30 = .ok (.i2l, 1) := by decide +kernel
theorem dX7_firstWrong_31 : decode cX7_firstWrong 31 = .ok (.invokestatic 62, 3) := by decide +kernel
theorem dX7_firstWrong_34 : decode cX7_firstWrong 34 = .ok (.ifCond .ne 6, 3) := by decide +kernel
theorem dX7_firstWrong_37 : decode cX7_firstWrong 37 = .ok (.iload 7, 2) := by decide +kernel
theorem dX7_firstWrong_39 : decode cX7_firstWrong 39 = .ok (.ireturn, 1) := by decide +kernel
theorem dX7_firstWrong_40 : decode cX7_firstWrong 40 = .ok (.aload_n 0, 1) := by decide +kernel
theorem dX7_firstWrong_41 : decode cX7_firstWrong 41 = .ok (.getfield 21, 3) := by decide +kernel
theorem dX7_firstWrong_44 : decode cX7_firstWrong 44 = .ok (.iload 4, 2) := by decide +kernel
theorem dX7_firstWrong_46 : decode cX7_firstWrong 46 = .ok (.aaload, 1) := by decide +kernel
theorem dX7_firstWrong_47 : decode cX7_firstWrong 47 = .ok (.iload 7, 2) := by decide +kernel
theorem dX7_firstWrong_49 : decode cX7_firstWrong 49 = .ok (.laload, 1) := by decide +kernel
theorem dX7_firstWrong_50 : decode cX7_firstWrong 50 = .ok (.l2i, 1) := by decide +kernel
theorem dX7_firstWrong_51 : decode cX7_firstWrong 51 = .ok (.istore 8, 2) := by decide +kernel
theorem dX7_firstWrong_53 : decode cX7_firstWrong 53 = .ok (.aload_n 0, 1) := by decide +kernel
theorem dX7_firstWrong_54 : decode cX7_firstWrong 54 = .ok (.getfield 39, 3) := by decide +kernel
theorem dX7_firstWrong_57 : decode cX7_firstWrong 57 = .ok (.iload 8, 2) := by decide +kernel
theorem dX7_firstWrong_59 : decode cX7_firstWrong 59 = .ok (.aaload, 1) := by decide +kernel
theorem dX7_firstWrong_60 : decode cX7_firstWrong 60 = .ok (.iconst 0, 1) := by decide +kernel
theorem dX7_firstWrong_61 : decode cX7_firstWrong 61 = .ok (.iaload, 1) := by decide +kernel
theorem dX7_firstWrong_62 : decode cX7_firstWrong 62 = .ok (.iload 6, 2) := by decide +kernel
theorem dX7_firstWrong_64 : decode cX7_firstWrong 64 = .ok (.if_icmp .eq 17, 3) := by decide +kernel
theorem dX7_firstWrong_67 : decode cX7_firstWrong 67 = .ok (.aload_n 0, 1) := by decide +kernel
theorem dX7_firstWrong_68 : decode cX7_firstWrong 68 = .ok (.getfield 39, 3) := by decide +kernel
theorem dX7_firstWrong_71 : decode cX7_firstWrong 71 = .ok (.iload 8, 2) := by decide +kernel
theorem dX7_firstWrong_73 : decode cX7_firstWrong 73 = .ok (.aaload, 1) := by decide +kernel
theorem dX7_firstWrong_74 : decode cX7_firstWrong 74 = .ok (.iconst 1, 1) := by decide +kernel
theorem dX7_firstWrong_75 : decode cX7_firstWrong 75 = .ok (.iaload, 1) := by decide +kernel
theorem dX7_firstWrong_76 : decode cX7_firstWrong 76 = .ok (.iload 6, 2) := by decide +kernel
theorem dX7_firstWrong_78 : decode cX7_firstWrong 78 = .ok (.if_icmp .ne 7, 3) := by decide +kernel
theorem dX7_firstWrong_81 : decode cX7_firstWrong 81 = .ok (.iconst 1, 1) := by decide +kernel
theorem dX7_firstWrong_82 : decode cX7_firstWrong 82 = .ok (.goto 4, 3) := by decide +kernel
theorem dX7_firstWrong_85 : decode cX7_firstWrong 85 = .ok (.iconst 0, 1) := by decide +kernel
theorem dX7_firstWrong_86 : decode cX7_firstWrong 86 = .ok (.istore 9, 2) := by decide +kernel
theorem dX7_firstWrong_88 : decode cX7_firstWrong 88 = .ok (.iload 9, 2) := by decide +kernel
theorem dX7_firstWrong_90 : decode cX7_firstWrong 90 = .ok (.ifCond .eq 14, 3) := by decide +kernel
theorem dX7_firstWrong_93 : decode cX7_firstWrong 93 = .ok (.aload_n 0, 1) := by decide +kernel
theorem dX7_firstWrong_94 : decode cX7_firstWrong 94 = .ok (.iload_n 1, 1) := by decide +kernel
theorem dX7_firstWrong_95 : decode cX7_firstWrong 95 = .ok (.iload_n 2, 1) := by decide +kernel
theorem dX7_firstWrong_96 : decode cX7_firstWrong 96 = .ok (.iload 8, 2) := by decide +kernel
theorem dX7_firstWrong_98 : decode cX7_firstWrong 98 = .ok (.invokevirtual 281, 3) := by decide +kernel
theorem dX7_firstWrong_101 : decode cX7_firstWrong 101 = .ok (.ifCond .ne 6, 3) := by decide +kernel
theorem dX7_firstWrong_104 : decode cX7_firstWrong 104 = .ok (.iload 7, 2) := by decide +kernel
theorem dX7_firstWrong_106 : decode cX7_firstWrong 106 = .ok (.ireturn, 1) := by decide +kernel
theorem dX7_firstWrong_107 : decode cX7_firstWrong 107 = .ok (.aload_n 0, 1) := by decide +kernel
theorem dX7_firstWrong_108 : decode cX7_firstWrong 108 = .ok (.getfield 39, 3) := by decide +kernel
theorem dX7_firstWrong_111 : decode cX7_firstWrong 111 = .ok (.iload 8, 2) := by decide +kernel
theorem dX7_firstWrong_113 : decode cX7_firstWrong 113 = .ok (.aaload, 1) := by decide +kernel
theorem dX7_firstWrong_114 : decode cX7_firstWrong 114 = .ok (.iconst 0, 1) := by decide +kernel
theorem dX7_firstWrong_115 : decode cX7_firstWrong 115 = .ok (.iaload, 1) := by decide +kernel
theorem dX7_firstWrong_116 : decode cX7_firstWrong 116 = .ok (.iload 6, 2) := by decide +kernel
theorem dX7_firstWrong_118 : decode cX7_firstWrong 118 = .ok (.if_icmp .ne 15, 3) := by decide +kernel
theorem dX7_firstWrong_121 : decode cX7_firstWrong 121 = .ok (.aload_n 0, 1) := by decide +kernel
theorem dX7_firstWrong_122 : decode cX7_firstWrong 122 = .ok (.getfield 39, 3) := by decide +kernel
theorem dX7_firstWrong_125 : decode cX7_firstWrong 125 = .ok (.iload 8, 2) := by decide +kernel
theorem dX7_firstWrong_127 : decode cX7_firstWrong 127 = .ok (.aaload, 1) := by decide +kernel
theorem dX7_firstWrong_128 : decode cX7_firstWrong 128 = .ok (.iconst 1, 1) := by decide +kernel
theorem dX7_firstWrong_129 : decode cX7_firstWrong 129 = .ok (.iaload, 1) := by decide +kernel
theorem dX7_firstWrong_130 : decode cX7_firstWrong 130 = .ok (.goto 12, 3) := by decide +kernel
theorem dX7_firstWrong_133 : decode cX7_firstWrong 133 = .ok (.aload_n 0, 1) := by decide +kernel
theorem dX7_firstWrong_134 : decode cX7_firstWrong 134 = .ok (.getfield 39, 3) := by decide +kernel
theorem dX7_firstWrong_137 : decode cX7_firstWrong 137 = .ok (.iload 8, 2) := by decide +kernel
theorem dX7_firstWrong_139 : decode cX7_firstWrong 139 = .ok (.aaload, 1) := by decide +kernel
theorem dX7_firstWrong_140 : decode cX7_firstWrong 140 = .ok (.iconst 0, 1) := by decide +kernel
theorem dX7_firstWrong_141 : decode cX7_firstWrong 141 = .ok (.iaload, 1) := by decide +kernel
theorem dX7_firstWrong_142 : decode cX7_firstWrong 142 = .ok (.istore 6, 2) := by decide +kernel
theorem dX7_firstWrong_144 : decode cX7_firstWrong 144 = .ok (.iinc 7 1, 3) := by decide +kernel
theorem dX7_firstWrong_147 : decode cX7_firstWrong 147 = .ok (.goto (-141), 3) := by decide +kernel
theorem dX7_firstWrong_150 : decode cX7_firstWrong 150 = .ok (.aload_n 0, 1) := by decide +kernel
theorem dX7_firstWrong_151 : decode cX7_firstWrong 151 = .ok (.iload 6, 2) := by decide +kernel
theorem dX7_firstWrong_153 : decode cX7_firstWrong 153 = .ok (.putfield 310, 3) := by decide +kernel
theorem dX7_firstWrong_156 : decode cX7_firstWrong 156 = .ok (.iconst (-1), 1) := by decide +kernel
theorem dX7_firstWrong_157 : decode cX7_firstWrong 157 = .ok (.ireturn, 1) := by decide +kernel
theorem dX7_frost_0 : decode cX7_frost 0 = .ok (.aload_n 0, 1) := by decide +kernel
theorem dX7_frost_1 : decode cX7_frost 1 = .ok (.iload_n 1, 1) := by decide +kernel
theorem dX7_frost_2 : decode cX7_frost 2 = .ok (.iload_n 2, 1) := by decide +kernel
theorem dX7_frost_3 : decode cX7_frost 3 = .ok (.invokevirtual 260, 3) := by decide +kernel
theorem dX7_frost_6 : decode cX7_frost 6 = .ok (.ifCond .eq 35, 3) := by decide +kernel
theorem dX7_frost_9 : decode cX7_frost 9 = .ok (.iload_n 3, 1) := by decide +kernel
theorem dX7_frost_10 : decode cX7_frost 10 = .ok (.invokestatic 113, 3) := by decide +kernel
theorem dX7_frost_13 : decode cX7_frost 13 = .ok (.ifCond .eq 28, 3) := by decide +kernel
theorem dX7_frost_16 : decode cX7_frost 16 = .ok (.iload 4, 2) := by decide +kernel
theorem dX7_frost_18 : decode cX7_frost 18 = .ok (.invokestatic 113, 3) := by decide +kernel
theorem dX7_frost_21 : decode cX7_frost 21 = .ok (.ifCond .eq 20, 3) := by decide +kernel
theorem dX7_frost_24 : decode cX7_frost 24 = .ok (.iload 5, 2) := by decide +kernel
theorem dX7_frost_26 : decode cX7_frost 26 = .ok (.i2l, 1) := by decide +kernel
theorem dX7_frost_27 : decode cX7_frost 27 = .ok (.lconst 0, 1) := by decide +kernel
theorem dX7_frost_28 : decode cX7_frost 28 = .ok (.ldc2_w 249, 3) := by decide +kernel
theorem dX7_frost_31 : decode cX7_frost 31 = .ok (.invokestatic 62, 3) := by decide +kernel
theorem dX7_frost_34 : decode cX7_frost 34 = .ok (.ifCond .eq 7, 3) := by decide +kernel
theorem dX7_frost_37 : decode cX7_frost 37 = .ok (.iconst 1, 1) := by decide +kernel
theorem dX7_frost_38 : decode cX7_frost 38 = .ok (.goto 4, 3) := by decide +kernel
theorem dX7_frost_41 : decode cX7_frost 41 = .ok (.iconst 0, 1) := by decide +kernel
theorem dX7_frost_42 : decode cX7_frost 42 = .ok (.istore 8, 2) := by decide +kernel
theorem dX7_frost_44 : decode cX7_frost 44 = .ok (.iload 8, 2) := by decide +kernel
theorem dX7_frost_46 : decode cX7_frost 46 = .ok (.ifCond .eq 29, 3) := by decide +kernel
theorem dX7_frost_49 : decode cX7_frost 49 = .ok (.iload 6, 2) := by decide +kernel
theorem dX7_frost_51 : decode cX7_frost 51 = .ok (.i2l, 1) := by decide +kernel
theorem dX7_frost_52 : decode cX7_frost 52 = .ok (.lconst 0, 1) := by decide +kernel
theorem dX7_frost_53 : decode cX7_frost 53 = .ok (.ldc2_w 162, 3) := by decide +kernel
theorem dX7_frost_56 : decode cX7_frost 56 = .ok (.invokestatic 62, 3) := by decide +kernel
theorem dX7_frost_59 : decode cX7_frost 59 = .ok (.ifCond .eq 16, 3) := by decide +kernel
theorem dX7_frost_62 : decode cX7_frost 62 = .ok (.iload 7, 2) := by decide +kernel
theorem dX7_frost_64 : decode cX7_frost 64 = .ok (.i2l, 1) := by decide +kernel
theorem dX7_frost_65 : decode cX7_frost 65 = .ok (.lconst 0, 1) := by decide +kernel
theorem dX7_frost_66 : decode cX7_frost 66 = .ok (.ldc2_w 129, 3) := by decide +kernel
theorem dX7_frost_69 : decode cX7_frost 69 = .ok (.invokestatic 62, 3) := by decide +kernel
theorem dX7_frost_72 : decode cX7_frost 72 = .ok (.ifCond .ne 11, 3) := by decide +kernel
theorem dX7_frost_75 : decode cX7_frost 75 = .ok (.aload_n 0, 1) := by decide +kernel
theorem dX7_frost_76 : decode cX7_frost 76 = .ok (.bipush (-2), 2) := by decide +kernel
theorem dX7_frost_78 : decode cX7_frost 78 = .ok (.invokevirtual 89, 3) := by decide +kernel
theorem dX7_frost_81 : decode cX7_frost 81 = .ok (.i2l, 1) := by decide +kernel
theorem dX7_frost_82 : decode cX7_frost 82 = .ok (.lreturn, 1) := by decide +kernel
theorem dX7_frost_83 : decode cX7_frost 83 = .ok (.aload_n 0, 1) := by decide +kernel
theorem dX7_frost_84 : decode cX7_frost 84 = .ok (.getfield 51, 3) := by decide +kernel
theorem dX7_frost_87 : decode cX7_frost 87 = .ok (.iconst 2, 1) := by decide +kernel
theorem dX7_frost_88 : decode cX7_frost 88 = .ok (.iaload, 1) := by decide +kernel
theorem dX7_frost_89 : decode cX7_frost 89 = .ok (.istore 9, 2) := by decide +kernel
theorem dX7_frost_91 : decode cX7_frost 91 = .ok (.aload_n 0, 1) := by decide +kernel
theorem dX7_frost_92 : decode cX7_frost 92 = .ok (.getfield 51, 3) := by decide +kernel
theorem dX7_frost_95 : decode cX7_frost 95 = .ok (.iconst 2, 1) := by decide +kernel
theorem dX7_frost_96 : decode cX7_frost 96 = .ok (.iconst 1, 1) := by decide +kernel
theorem dX7_frost_97 : decode cX7_frost 97 = .ok (.iastore, 1) := by decide +kernel
theorem dX7_frost_98 : decode cX7_frost 98 = .ok (.aload_n 0, 1) := by decide +kernel
theorem dX7_frost_99 : decode cX7_frost 99 = .ok (.iload_n 1, 1) := by decide +kernel
theorem dX7_frost_100 : decode cX7_frost 100 = .ok (.iload_n 2, 1) := by decide +kernel
theorem dX7_frost_101 : decode cX7_frost 101 = .ok (.iload_n 3, 1) := by decide +kernel
theorem dX7_frost_102 : decode cX7_frost 102 = .ok (.iload 4, 2) := by decide +kernel
theorem dX7_frost_104 : decode cX7_frost 104 = .ok (.iconst 1, 1) := by decide +kernel
theorem dX7_frost_105 : decode cX7_frost 105 = .ok (.invokevirtual 307, 3) := by decide +kernel
theorem dX7_frost_108 : decode cX7_frost 108 = .ok (.istore 10, 2) := by decide +kernel
theorem dX7_frost_110 : decode cX7_frost 110 = .ok (.aload_n 0, 1) := by decide +kernel
theorem dX7_frost_111 : decode cX7_frost 111 = .ok (.getfield 51, 3) := by decide +kernel
theorem dX7_frost_114 : decode cX7_frost 114 = .ok (.iconst 2, 1) := by decide +kernel
theorem dX7_frost_115 : decode cX7_frost 115 = .ok (.iconst 0, 1) := by decide +kernel
theorem dX7_frost_116 : decode cX7_frost 116 = .ok (.iastore, 1) := by decide +kernel
theorem dX7_frost_117 : decode cX7_frost 117 = .ok (.aload_n 0, 1) := by decide +kernel
theorem dX7_frost_118 : decode cX7_frost 118 = .ok (.iload_n 1, 1) := by decide +kernel
theorem dX7_frost_119 : decode cX7_frost 119 = .ok (.iload_n 2, 1) := by decide +kernel
theorem dX7_frost_120 : decode cX7_frost 120 = .ok (.iload_n 3, 1) := by decide +kernel
theorem dX7_frost_121 : decode cX7_frost 121 = .ok (.iload 4, 2) := by decide +kernel
theorem dX7_frost_123 : decode cX7_frost 123 = .ok (.iconst 1, 1) := by decide +kernel
theorem dX7_frost_124 : decode cX7_frost 124 = .ok (.invokevirtual 307, 3) := by decide +kernel
theorem dX7_frost_127 : decode cX7_frost 127 = .ok (.istore 11, 2) := by decide +kernel
theorem dX7_frost_129 : decode cX7_frost 129 = .ok (.aload_n 0, 1) := by decide +kernel
theorem dX7_frost_130 : decode cX7_frost 130 = .ok (.getfield 51, 3) := by decide +kernel
theorem dX7_frost_133 : decode cX7_frost 133 = .ok (.iconst 2, 1) := by decide +kernel
theorem dX7_frost_134 : decode cX7_frost 134 = .ok (.iload 9, 2) := by decide +kernel
theorem dX7_frost_136 : decode cX7_frost 136 = .ok (.iastore, 1) := by decide +kernel
theorem dX7_frost_137 : decode cX7_frost 137 = .ok (.iload 11, 2) := by decide +kernel
theorem dX7_frost_139 : decode cX7_frost 139 = .ok (.iconst (-1), 1) := by decide +kernel
theorem dX7_frost_140 : decode cX7_frost 140 = .ok (.if_icmp .ne 11, 3) := by decide +kernel
theorem dX7_frost_143 : decode cX7_frost 143 = .ok (.aload_n 0, 1) := by decide +kernel
theorem dX7_frost_144 : decode cX7_frost 144 = .ok (.bipush (-5), 2) := by decide +kernel
theorem dX7_frost_146 : decode cX7_frost 146 = .ok (.invokevirtual 89, 3) := by decide +kernel
theorem dX7_frost_149 : decode cX7_frost 149 = .ok (.i2l, 1) := by decide +kernel
theorem dX7_frost_150 : decode cX7_frost 150 = .ok (.lreturn, 1) := by decide +kernel
theorem dX7_frost_151 : decode cX7_frost 151 = .ok (.iload 11, 2) := by decide +kernel
theorem dX7_frost_153 : decode cX7_frost 153 = .ok (.i2l, 1) := by decide +kernel
theorem dX7_frost_154 : decode cX7_frost 154 = .ok (.lstore 12, 2) := by decide +kernel
theorem dX7_frost_156 : decode cX7_frost 156 = .ok (.lconst 1, 1) := by decide +kernel
theorem dX7_frost_157 : decode cX7_frost 157 = .ok (.lstore 14, 2) := by decide +kernel
theorem dX7_frost_159 : decode cX7_frost 159 = .ok (.iconst 0, 1) := by decide +kernel
theorem dX7_frost_160 : decode cX7_frost 160 = .ok (.istore 16, 2) := by decide +kernel
theorem dX7_frost_162 : decode cX7_frost 162 = .ok (.iload 16, 2) := by decide +kernel
theorem dX7_frost_164 : decode cX7_frost 164 = .ok (.iload 5, 2) := by decide +kernel
theorem dX7_frost_166 : decode cX7_frost 166 = .ok (.if_icmp .ge 75, 3) := by decide +kernel
theorem dX7_frost_169 : decode cX7_frost 169 = .ok (.ldc2_w 162, 3) := by decide +kernel
theorem dX7_frost_172 : decode cX7_frost 172 = .ok (.lload 14, 2) := by decide +kernel
theorem dX7_frost_174 : decode cX7_frost 174 = .ok (.lmul, 1) := by decide +kernel
theorem dX7_frost_175 : decode cX7_frost 175 = .ok (.iload 7, 2) := by decide +kernel
theorem dX7_frost_177 : decode cX7_frost 177 = .ok (.i2l, 1) := by decide +kernel
theorem dX7_frost_178 : decode cX7_frost 178 = .ok (.lmul, 1) := by decide +kernel
theorem dX7_frost_179 : decode cX7_frost 179 = .ok (.iload 6, 2) := by decide +kernel
theorem dX7_frost_181 : decode cX7_frost 181 = .ok (.i2l, 1) := by decide +kernel
theorem dX7_frost_182 : decode cX7_frost 182 = .ok (.lload 14, 2) := by decide +kernel
theorem dX7_frost_184 : decode cX7_frost 184 = .ok (.lmul, 1) := by decide +kernel
theorem dX7_frost_185 : decode cX7_frost 185 = .ok (.iload 10, 2) := by decide +kernel
theorem dX7_frost_187 : decode cX7_frost 187 = .ok (.i2l, 1) := by decide +kernel
theorem dX7_frost_188 : decode cX7_frost 188 = .ok (.lmul, 1) := by decide +kernel
theorem dX7_frost_189 : decode cX7_frost 189 = .ok (.ladd, 1) := by decide +kernel
theorem dX7_frost_190 : decode cX7_frost 190 = .ok (.bipush 10, 2) := by decide +kernel
theorem dX7_frost_192 : decode cX7_frost 192 = .ok (.iload 6, 2) := by decide +kernel
theorem dX7_frost_194 : decode cX7_frost 194 = .ok (.isub, 1) := by decide +kernel
theorem dX7_frost_195 : decode cX7_frost 195 = .ok (.i2l, 1) := by decide +kernel
theorem dX7_frost_196 : decode cX7_frost 196 = .ok (.lload 12, 2) := by decide +kernel
theorem dX7_frost_198 : decode cX7_frost 198 = .ok (.lmul, 1) := by decide +kernel
theorem dX7_frost_199 : decode cX7_frost 199 = .ok (.ladd, 1) := by decide +kernel
theorem dX7_frost_200 : decode cX7_frost 200 = .ok (.lstore 17, 2) := by decide +kernel
theorem dX7_frost_202 : decode cX7_frost 202 = .ok (.lload 14, 2) := by decide +kernel
theorem dX7_frost_204 : decode cX7_frost 204 = .ok (.ldc2_w 162, 3) := by decide +kernel
theorem dX7_frost_207 : decode cX7_frost 207 = .ok (.lmul, 1) := by decide +kernel
theorem dX7_frost_208 : decode cX7_frost 208 = .ok (.lstore 14, 2) := by decide +kernel
theorem dX7_frost_210 : decode cX7_frost 210 = .ok (.lload 14, 2) := by decide +kernel
theorem dX7_frost_212 : decode cX7_frost 212 = .ok (.iload 11, 2) := by decide +kernel
theorem dX7_frost_214 : decode cX7_frost 214 = .ok (.i2l, 1) := by decide +kernel
theorem dX7_frost_215 : decode cX7_frost 215 = .ok (.lmul, 1) := by decide +kernel
theorem dX7_frost_216 : decode cX7_frost 216 = .ok (.lload 17, 2) := by decide +kernel
theorem dX7_frost_218 : decode cX7_frost 218 = .ok (.lcmp, 1) := by decide +kernel
theorem dX7_frost_219 : decode cX7_frost 219 = .ok (.ifCond .ge 12, 3) := by decide +kernel
theorem dX7_frost_222 : decode cX7_frost 222 = .ok (.lload 14, 2) := by decide +kernel
theorem dX7_frost_224 : decode cX7_frost 224 = .ok (.iload 11, 2) := by decide +kernel
theorem dX7_frost_226 : decode cX7_frost 226 = .ok (.i2l, 1) := by decide +kernel
theorem dX7_frost_227 : decode cX7_frost 227 = .ok (.lmul, 1) := by decide +kernel
theorem dX7_frost_228 : decode cX7_frost 228 = .ok (.goto 5, 3) := by decide +kernel
theorem dX7_frost_231 : decode cX7_frost 231 = .ok (.lload 17, 2) := by decide +kernel
theorem dX7_frost_233 : decode cX7_frost 233 = .ok (.lstore 12, 2) := by decide +kernel
theorem dX7_frost_235 : decode cX7_frost 235 = .ok (.iinc 16 1, 3) := by decide +kernel
theorem dX7_frost_238 : decode cX7_frost 238 = .ok (.goto (-76), 3) := by decide +kernel
theorem dX7_frost_241 : decode cX7_frost 241 = .ok (.lload 12, 2) := by decide +kernel
theorem dX7_frost_243 : decode cX7_frost 243 = .ok (.lreturn, 1) := by decide +kernel
theorem dX7_hang_0 : decode cX7_hang 0 = .ok (.aload_n 0, 1) := by decide +kernel
theorem dX7_hang_1 : decode cX7_hang 1 = .ok (.iload_n 1, 1) := by decide +kernel
theorem dX7_hang_2 : decode cX7_hang 2 = .ok (.iload_n 2, 1) := by decide +kernel
theorem dX7_hang_3 : decode cX7_hang 3 = .ok (.invokevirtual 260, 3) := by decide +kernel
theorem dX7_hang_6 : decode cX7_hang 6 = .ok (.ifCond .eq 18, 3) := by decide +kernel
theorem dX7_hang_9 : decode cX7_hang 9 = .ok (.iload_n 3, 1) := by decide +kernel
theorem dX7_hang_10 : decode cX7_hang 10 = .ok (.invokestatic 113, 3) := by decide +kernel
theorem dX7_hang_13 : decode cX7_hang 13 = .ok (.ifCond .eq 11, 3) := by decide +kernel
theorem dX7_hang_16 : decode cX7_hang 16 = .ok (.iload 4, 2) := by decide +kernel
theorem dX7_hang_18 : decode cX7_hang 18 = .ok (.invokestatic 113, 3) := by decide +kernel
theorem dX7_hang_21 : decode cX7_hang 21 = .ok (.ifCond .ne 10, 3) := by decide +kernel
theorem dX7_hang_24 : decode cX7_hang 24 = .ok (.aload_n 0, 1) := by decide +kernel
theorem dX7_hang_25 : decode cX7_hang 25 = .ok (.bipush (-2), 2) := by decide +kernel
theorem dX7_hang_27 : decode cX7_hang 27 = .ok (.invokevirtual 89, 3) := by decide +kernel
theorem dX7_hang_30 : decode cX7_hang 30 = .ok (.ireturn, 1) := by decide +kernel
theorem dX7_hang_31 : decode cX7_hang 31 = .ok (.aload_n 0, 1) := by decide +kernel
theorem dX7_hang_32 : decode cX7_hang 32 = .ok (.getfield 70, 3) := by decide +kernel
theorem dX7_hang_35 : decode cX7_hang 35 = .ok (.ifCond .eq 17, 3) := by decide +kernel
theorem dX7_hang_38 : decode cX7_hang 38 = .ok (.aload_n 0, 1) := by decide +kernel
theorem dX7_hang_39 : decode cX7_hang 39 = .ok (.iload_n 1, 1) := by decide +kernel
theorem dX7_hang_40 : decode cX7_hang 40 = .ok (.iload_n 2, 1) := by decide +kernel
theorem dX7_hang_41 : decode cX7_hang 41 = .ok (.iload_n 3, 1) := by decide +kernel
theorem dX7_hang_42 : decode cX7_hang 42 = .ok (.iload 4, 2) := by decide +kernel
theorem dX7_hang_44 : decode cX7_hang 44 = .ok (.iconst 1, 1) := by decide +kernel
theorem dX7_hang_45 : decode cX7_hang 45 = .ok (.invokevirtual 307, 3) := by decide +kernel
theorem dX7_hang_48 : decode cX7_hang 48 = .ok (.iconst (-1), 1) := by decide +kernel
theorem dX7_hang_49 : decode cX7_hang 49 = .ok (.if_icmp .ne 10, 3) := by decide +kernel
theorem dX7_hang_52 : decode cX7_hang 52 = .ok (.aload_n 0, 1) := by decide +kernel
theorem dX7_hang_53 : decode cX7_hang 53 = .ok (.bipush (-5), 2) := by decide +kernel
theorem dX7_hang_55 : decode cX7_hang 55 = .ok (.invokevirtual 89, 3) := by decide +kernel
theorem dX7_hang_58 : decode cX7_hang 58 = .ok (.ireturn, 1) := by decide +kernel
theorem dX7_hang_59 : decode cX7_hang 59 = .ok (.iconst (-1), 1) := by decide +kernel
theorem dX7_hang_60 : decode cX7_hang 60 = .ok (.istore 5, 2) := by decide +kernel
theorem dX7_hang_62 : decode cX7_hang 62 = .ok (.lconst 0, 1) := by decide +kernel
theorem dX7_hang_63 : decode cX7_hang 63 = .ok (.lstore 6, 2) := by decide +kernel
theorem dX7_hang_65 : decode cX7_hang 65 = .ok (.iconst 0, 1) := by decide +kernel
theorem dX7_hang_66 : decode cX7_hang 66 = .ok (.istore 8, 2) := by decide +kernel
theorem dX7_hang_68 : decode cX7_hang 68 = .ok (.iload 8, 2) := by decide +kernel
theorem dX7_hang_70 : decode cX7_hang 70 = .ok (.aload_n 0, 1) := by decide +kernel
theorem dX7_hang_71 : decode cX7_hang 71 = .ok (.getfield 70, 3) := by decide +kernel
theorem dX7_hang_74 : decode cX7_hang 74 = .ok (.if_icmp .ge 95, 3) := by decide +kernel
theorem dX7_hang_77 : decode cX7_hang 77 = .ok (.aload_n 0, 1) := by decide +kernel
theorem dX7_hang_78 : decode cX7_hang 78 = .ok (.getfield 42, 3) := by decide +kernel
theorem dX7_hang_81 : decode cX7_hang 81 = .ok (.iload 8, 2) := by decide +kernel
theorem dX7_hang_83 : decode cX7_hang 83 = .ok (.aaload, 1) := by decide +kernel
theorem dX7_hang_84 : decode cX7_hang 84 = .ok (.bipush 8, 2) := by decide +kernel
theorem dX7_hang_86 : decode cX7_hang 86 = .ok (.iaload, 1) := by decide +kernel
theorem dX7_hang_87 : decode cX7_hang 87 = .ok (.istore 9, 2) := by decide +kernel
theorem dX7_hang_89 : decode cX7_hang 89 = .ok (.aload_n 0, 1) := by decide +kernel
theorem dX7_hang_90 : decode cX7_hang 90 = .ok (.getfield 42, 3) := by decide +kernel
theorem dX7_hang_93 : decode cX7_hang 93 = .ok (.iload 8, 2) := by decide +kernel
theorem dX7_hang_95 : decode cX7_hang 95 = .ok (.aaload, 1) := by decide +kernel
theorem dX7_hang_96 : decode cX7_hang 96 = .ok (.bipush 8, 2) := by decide +kernel
theorem dX7_hang_98 : decode cX7_hang 98 = .ok (.iconst 1, 1) := by decide +kernel
theorem dX7_hang_99 : decode cX7_hang 99 = .ok (.iastore, 1) := by decide +kernel
theorem dX7_hang_100 : decode cX7_hang 100 = .ok (.aload_n 0, 1) := by decide +kernel
theorem dX7_hang_101 : decode cX7_hang 101 = .ok (.iload_n 1, 1) := by decide +kernel
theorem dX7_hang_102 : decode cX7_hang 102 = .ok (.iload_n 2, 1) := by decide +kernel
theorem dX7_hang_103 : decode cX7_hang 103 = .ok (.iload_n 3, 1) := by decide +kernel
theorem dX7_hang_104 : decode cX7_hang 104 = .ok (.iload 4, 2) := by decide +kernel
theorem dX7_hang_106 : decode cX7_hang 106 = .ok (.iconst 1, 1) := by decide +kernel
theorem dX7_hang_107 : decode cX7_hang 107 = .ok (.invokevirtual 307, 3) := by decide +kernel
theorem dX7_hang_110 : decode cX7_hang 110 = .ok (.istore 10, 2) := by decide +kernel
theorem dX7_hang_112 : decode cX7_hang 112 = .ok (.aload_n 0, 1) := by decide +kernel
theorem dX7_hang_113 : decode cX7_hang 113 = .ok (.getfield 42, 3) := by decide +kernel
theorem dX7_hang_116 : decode cX7_hang 116 = .ok (.iload 8, 2) := by decide +kernel
theorem dX7_hang_118 : decode cX7_hang 118 = .ok (.aaload, 1) := by decide +kernel
theorem dX7_hang_119 : decode cX7_hang 119 = .ok (.bipush 8, 2) := by decide +kernel
theorem dX7_hang_121 : decode cX7_hang 121 = .ok (.iload 9, 2) := by decide +kernel
theorem dX7_hang_123 : decode cX7_hang 123 = .ok (.iastore, 1) := by decide +kernel
theorem dX7_hang_124 : decode cX7_hang 124 = .ok (.iload 10, 2) := by decide +kernel
theorem dX7_hang_126 : decode cX7_hang 126 = .ok (.iconst (-1), 1) := by decide +kernel
theorem dX7_hang_127 : decode cX7_hang 127 = .ok (.if_icmp .ne 9, 3) := by decide +kernel
theorem dX7_hang_130 : decode cX7_hang 130 = .ok (.ldc2_w 292, 3) := by decide +kernel
theorem dX7_hang_133 : decode cX7_hang 133 = .ok (.goto 6, 3) := by decide +kernel
theorem dX7_hang_136 : decode cX7_hang 136 = .ok (.iload 10, 2) := by decide +kernel
theorem dX7_hang_138 : decode cX7_hang 138 = .ok (.i2l, 1) := by decide +kernel
theorem dX7_hang_139 : decode cX7_hang 139 = .ok (.lstore 11, 2) := by decide +kernel
theorem dX7_hang_141 : decode cX7_hang 141 = .ok (.iload 5, 2) := by decide +kernel
theorem dX7_hang_143 : decode cX7_hang 143 = .ok (.iconst (-1), 1) := by decide +kernel
theorem dX7_hang_144 : decode cX7_hang 144 = .ok (.if_icmp .eq 11, 3) := by decide +kernel
theorem dX7_hang_147 : decode cX7_hang 147 = .ok (.lload 11, 2) := by decide +kernel
theorem dX7_hang_149 : decode cX7_hang 149 = .ok (.lload 6, 2) := by decide +kernel
theorem dX7_hang_151 : decode cX7_hang 151 = .ok (.lcmp, 1) := by decide +kernel
theorem dX7_hang_152 : decode cX7_hang 152 = .ok (.ifCond .le 11, 3) := by decide +kernel
theorem dX7_hang_155 : decode cX7_hang 155 = .ok (.iload 8, 2) := by decide +kernel
theorem dX7_hang_157 : decode cX7_hang 157 = .ok (.istore 5, 2) := by decide +kernel
theorem dX7_hang_159 : decode cX7_hang 159 = .ok (.lload 11, 2) := by decide +kernel
theorem dX7_hang_161 : decode cX7_hang 161 = .ok (.lstore 6, 2) := by decide +kernel
theorem dX7_hang_163 : decode cX7_hang 163 = .ok (.iinc 8 1, 3) := by decide +kernel
theorem dX7_hang_166 : decode cX7_hang 166 = .ok (.goto (-98), 3) := by decide +kernel
theorem dX7_hang_169 : decode cX7_hang 169 = .ok (.iload 5, 2) := by decide +kernel
theorem dX7_hang_171 : decode cX7_hang 171 = .ok (.ireturn, 1) := by decide +kernel
theorem dX7_judge_0 : decode cX7_judge 0 = .ok (.aload_n 0, 1) := by decide +kernel
theorem dX7_judge_1 : decode cX7_judge 1 = .ok (.iload_n 1, 1) := by decide +kernel
theorem dX7_judge_2 : decode cX7_judge 2 = .ok (.iload_n 2, 1) := by decide +kernel
theorem dX7_judge_3 : decode cX7_judge 3 = .ok (.iload_n 3, 1) := by decide +kernel
theorem dX7_judge_4 : decode cX7_judge 4 = .ok (.iload 4, 2) := by decide +kernel
theorem dX7_judge_6 : decode cX7_judge 6 = .ok (.iload 5, 2) := by decide +kernel
theorem dX7_judge_8 : decode cX7_judge 8 = .ok (.invokevirtual 313, 3) := by decide +kernel
theorem dX7_judge_11 : decode cX7_judge 11 = .ok (.istore 6, 2) := by decide +kernel
theorem dX7_judge_13 : decode cX7_judge 13 = .ok (.iload 6, 2) := by decide +kernel
theorem dX7_judge_15 : decode cX7_judge 15 = .ok (.ifCond .eq 8, 3) := by decide +kernel
theorem dX7_judge_18 : decode cX7_judge 18 = .ok (.iload 6, 2) := by decide +kernel
theorem dX7_judge_20 : decode cX7_judge 20 = .ok (.goto 14, 3) := by decide +kernel
theorem dX7_judge_23 : decode cX7_judge 23 = .ok (.aload_n 0, 1) := by decide +kernel
theorem dX7_judge_24 : decode cX7_judge 24 = .ok (.iload_n 1, 1) := by decide +kernel
theorem dX7_judge_25 : decode cX7_judge 25 = .ok (.iload_n 2, 1) := by decide +kernel
theorem dX7_judge_26 : decode cX7_judge 26 = .ok (.iload_n 3, 1) := by decide +kernel
theorem dX7_judge_27 : decode cX7_judge 27 = .ok (.iload 4, 2) := by decide +kernel
theorem dX7_judge_29 : decode cX7_judge 29 = .ok (.iload 5, 2) := by decide +kernel
theorem dX7_judge_31 : decode cX7_judge 31 = .ok (.invokevirtual 316, 3) := by decide +kernel
theorem dX7_judge_34 : decode cX7_judge 34 = .ok (.ireturn, 1) := by decide +kernel
theorem dX7_most_0 : decode cX7_most 0 = .ok (.aload_n 0, 1) := by decide +kernel
theorem dX7_most_1 : decode cX7_most 1 = .ok (.iload_n 1, 1) := by decide +kernel
theorem dX7_most_2 : decode cX7_most 2 = .ok (.invokevirtual 76, 3) := by decide +kernel
theorem dX7_most_5 : decode cX7_most 5 = .ok (.ifCond .eq 17, 3) := by decide +kernel
theorem dX7_most_8 : decode cX7_most 8 = .ok (.iload_n 2, 1) := by decide +kernel
theorem dX7_most_9 : decode cX7_most 9 = .ok (.invokestatic 113, 3) := by decide +kernel
theorem dX7_most_12 : decode cX7_most 12 = .ok (.ifCond .eq 10, 3) := by decide +kernel
theorem dX7_most_15 : decode cX7_most 15 = .ok (.iload_n 3, 1) := by decide +kernel
theorem dX7_most_16 : decode cX7_most 16 = .ok (.invokestatic 113, 3) := by decide +kernel
theorem dX7_most_19 : decode cX7_most 19 = .ok (.ifCond .ne 10, 3) := by decide +kernel
theorem dX7_most_22 : decode cX7_most 22 = .ok (.aload_n 0, 1) := by decide +kernel
theorem dX7_most_23 : decode cX7_most 23 = .ok (.bipush (-2), 2) := by decide +kernel
theorem dX7_most_25 : decode cX7_most 25 = .ok (.invokevirtual 89, 3) := by decide +kernel
theorem dX7_most_28 : decode cX7_most 28 = .ok (.ireturn, 1) := by decide +kernel
theorem dX7_most_29 : decode cX7_most 29 = .ok (.aload_n 0, 1) := by decide +kernel
theorem dX7_most_30 : decode cX7_most 30 = .ok (.getfield 51, 3) := by decide +kernel
theorem dX7_most_33 : decode cX7_most 33 = .ok (.iconst 0, 1) := by decide +kernel
theorem dX7_most_34 : decode cX7_most 34 = .ok (.iaload, 1) := by decide +kernel
theorem dX7_most_35 : decode cX7_most 35 = .ok (.istore 4, 2) := by decide +kernel
theorem dX7_most_37 : decode cX7_most 37 = .ok (.iconst (-1), 1) := by decide +kernel
theorem dX7_most_38 : decode cX7_most 38 = .ok (.istore 5, 2) := by decide +kernel
theorem dX7_most_40 : decode cX7_most 40 = .ok (.iconst 0, 1) := by decide +kernel
theorem dX7_most_41 : decode cX7_most 41 = .ok (.istore 6, 2) := by decide +kernel
theorem dX7_most_43 : decode cX7_most 43 = .ok (.sipush 900, 3) := by decide +kernel
theorem dX7_most_46 : decode cX7_most 46 = .ok (.istore 7, 2) := by decide +kernel
theorem dX7_most_48 : decode cX7_most 48 = .ok (.iload 6, 2) := by decide +kernel
theorem dX7_most_50 : decode cX7_most 50 = .ok (.iload 7, 2) := by decide +kernel
theorem dX7_most_52 : decode cX7_most 52 = .ok (.if_icmp .gt 63, 3) := by decide +kernel
theorem dX7_most_55 : decode cX7_most 55 = .ok (.aload_n 0, 1) := by decide +kernel
theorem dX7_most_56 : decode cX7_most 56 = .ok (.getfield 51, 3) := by decide +kernel
theorem dX7_most_59 : decode cX7_most 59 = .ok (.iconst 0, 1) := by decide +kernel
theorem dX7_most_60 : decode cX7_most 60 = .ok (.iload 6, 2) := by decide +kernel
theorem dX7_most_62 : decode cX7_most 62 = .ok (.iload 7, 2) := by decide +kernel
theorem dX7_most_64 : decode cX7_most 64 = .ok (.iadd, 1) := by decide +kernel
theorem dX7_most_65 : decode cX7_most 65 = .ok (.iconst 2, 1) := by decide +kernel
theorem dX7_most_66 : decode cX7_most 66 = .ok (.idiv, 1) := by decide +kernel
theorem dX7_most_67 : decode cX7_most 67 = .ok (.iastore, 1) := by decide +kernel
theorem dX7_most_68 : decode cX7_most 68 = .ok (.aload_n 0, 1) := by decide +kernel
theorem dX7_most_69 : decode cX7_most 69 = .ok (.iload_n 1, 1) := by decide +kernel
theorem dX7_most_70 : decode cX7_most 70 = .ok (.iconst 0, 1) := by decide +kernel
theorem dX7_most_71 : decode cX7_most 71 = .ok (.iload_n 2, 1) := by decide +kernel
theorem dX7_most_72 : decode cX7_most 72 = .ok (.iload_n 3, 1) := by decide +kernel
theorem dX7_most_73 : decode cX7_most 73 = .ok (.iconst 1, 1) := by decide +kernel
theorem dX7_most_74 : decode cX7_most 74 = .ok (.invokevirtual 307, 3) := by decide +kernel
theorem dX7_most_77 : decode cX7_most 77 = .ok (.iconst (-1), 1) := by decide +kernel
theorem dX7_most_78 : decode cX7_most 78 = .ok (.if_icmp .eq 24, 3) := by decide +kernel
theorem dX7_most_81 : decode cX7_most 81 = .ok (.aload_n 0, 1) := by decide +kernel
theorem dX7_most_82 : decode cX7_most 82 = .ok (.getfield 51, 3) := by decide +kernel
theorem dX7_most_85 : decode cX7_most 85 = .ok (.iconst 0, 1) := by decide +kernel
theorem dX7_most_86 : decode cX7_most 86 = .ok (.iaload, 1) := by decide +kernel
theorem dX7_most_87 : decode cX7_most 87 = .ok (.istore 5, 2) := by decide +kernel
theorem dX7_most_89 : decode cX7_most 89 = .ok (.aload_n 0, 1) := by decide +kernel
theorem dX7_most_90 : decode cX7_most 90 = .ok (.getfield 51, 3) := by decide +kernel
theorem dX7_most_93 : decode cX7_most 93 = .ok (.iconst 0, 1) := by decide +kernel
theorem dX7_most_94 : decode cX7_most 94 = .ok (.iaload, 1) := by decide +kernel
theorem dX7_most_95 : decode cX7_most 95 = .ok (.iconst 1, 1) := by decide +kernel
theorem dX7_most_96 : decode cX7_most 96 = .ok (.iadd, 1) := by decide +kernel
theorem dX7_most_97 : decode cX7_most 97 = .ok (.istore 6, 2) := by decide +kernel
theorem dX7_most_99 : decode cX7_most 99 = .ok (.goto (-51), 3) := by decide +kernel
theorem dX7_most_102 : decode cX7_most 102 = .ok (.aload_n 0, 1) := by decide +kernel
theorem dX7_most_103 : decode cX7_most 103 = .ok (.getfield 51, 3) := by decide +kernel
theorem dX7_most_106 : decode cX7_most 106 = .ok (.iconst 0, 1) := by decide +kernel
theorem dX7_most_107 : decode cX7_most 107 = .ok (.iaload, 1) := by decide +kernel
theorem dX7_most_108 : decode cX7_most 108 = .ok (.iconst 1, 1) := by decide +kernel
theorem dX7_most_109 : decode cX7_most 109 = .ok (.isub, 1) := by decide +kernel
theorem dX7_most_110 : decode cX7_most 110 = .ok (.istore 7, 2) := by decide +kernel
theorem dX7_most_112 : decode cX7_most 112 = .ok (.goto (-64), 3) := by decide +kernel
theorem dX7_most_115 : decode cX7_most 115 = .ok (.aload_n 0, 1) := by decide +kernel
theorem dX7_most_116 : decode cX7_most 116 = .ok (.getfield 51, 3) := by decide +kernel
theorem dX7_most_119 : decode cX7_most 119 = .ok (.iconst 0, 1) := by decide +kernel
theorem dX7_most_120 : decode cX7_most 120 = .ok (.iload 4, 2) := by decide +kernel
theorem dX7_most_122 : decode cX7_most 122 = .ok (.iastore, 1) := by decide +kernel
theorem dX7_most_123 : decode cX7_most 123 = .ok (.iload 5, 2) := by decide +kernel
theorem dX7_most_125 : decode cX7_most 125 = .ok (.iconst (-1), 1) := by decide +kernel
theorem dX7_most_126 : decode cX7_most 126 = .ok (.if_icmp .ne 12, 3) := by decide +kernel
theorem dX7_most_129 : decode cX7_most 129 = .ok (.aload_n 0, 1) := by decide +kernel
theorem dX7_most_130 : decode cX7_most 130 = .ok (.bipush (-5), 2) := by decide +kernel
theorem dX7_most_132 : decode cX7_most 132 = .ok (.invokevirtual 89, 3) := by decide +kernel
theorem dX7_most_135 : decode cX7_most 135 = .ok (.goto 5, 3) := by decide +kernel
theorem dX7_most_138 : decode cX7_most 138 = .ok (.iload 5, 2) := by decide +kernel
theorem dX7_most_140 : decode cX7_most 140 = .ok (.ireturn, 1) := by decide +kernel
theorem dX7_noWay_0 : decode cX7_noWay 0 = .ok (.aload_n 0, 1) := by decide +kernel
theorem dX7_noWay_1 : decode cX7_noWay 1 = .ok (.iload_n 1, 1) := by decide +kernel
theorem dX7_noWay_2 : decode cX7_noWay 2 = .ok (.iload_n 2, 1) := by decide +kernel
theorem dX7_noWay_3 : decode cX7_noWay 3 = .ok (.invokevirtual 260, 3) := by decide +kernel
theorem dX7_noWay_6 : decode cX7_noWay 6 = .ok (.ifCond .eq 36, 3) := by decide +kernel
theorem dX7_noWay_9 : decode cX7_noWay 9 = .ok (.iload_n 3, 1) := by decide +kernel
theorem dX7_noWay_10 : decode cX7_noWay 10 = .ok (.invokestatic 113, 3) := by decide +kernel
theorem dX7_noWay_13 : decode cX7_noWay 13 = .ok (.ifCond .eq 29, 3) := by decide +kernel
theorem dX7_noWay_16 : decode cX7_noWay 16 = .ok (.iload 4, 2) := by decide +kernel
theorem dX7_noWay_18 : decode cX7_noWay 18 = .ok (.i2l, 1) := by decide +kernel
theorem dX7_noWay_19 : decode cX7_noWay 19 = .ok (.lconst 0, 1) := by decide +kernel
theorem dX7_noWay_20 : decode cX7_noWay 20 = .ok (.ldc2_w 83, 3) := by decide +kernel
theorem dX7_noWay_23 : decode cX7_noWay 23 = .ok (.invokestatic 62, 3) := by decide +kernel
theorem dX7_noWay_26 : decode cX7_noWay 26 = .ok (.ifCond .eq 16, 3) := by decide +kernel
theorem dX7_noWay_29 : decode cX7_noWay 29 = .ok (.iload 5, 2) := by decide +kernel
theorem dX7_noWay_31 : decode cX7_noWay 31 = .ok (.i2l, 1) := by decide +kernel
theorem dX7_noWay_32 : decode cX7_noWay 32 = .ok (.lconst 0, 1) := by decide +kernel
theorem dX7_noWay_33 : decode cX7_noWay 33 = .ok (.ldc2_w 305, 3) := by decide +kernel
theorem dX7_noWay_36 : decode cX7_noWay 36 = .ok (.invokestatic 62, 3) := by decide +kernel
theorem dX7_noWay_39 : decode cX7_noWay 39 = .ok (.ifCond .ne 10, 3) := by decide +kernel
theorem dX7_noWay_42 : decode cX7_noWay 42 = .ok (.aload_n 0, 1) := by decide +kernel
theorem dX7_noWay_43 : decode cX7_noWay 43 = .ok (.bipush (-2), 2) := by decide +kernel
theorem dX7_noWay_45 : decode cX7_noWay 45 = .ok (.invokevirtual 89, 3) := by decide +kernel
theorem dX7_noWay_48 : decode cX7_noWay 48 = .ok (.ireturn, 1) := by decide +kernel
theorem dX7_noWay_49 : decode cX7_noWay 49 = .ok (.aload_n 0, 1) := by decide +kernel
theorem dX7_noWay_50 : decode cX7_noWay 50 = .ok (.getfield 7, 3) := by decide +kernel
theorem dX7_noWay_53 : decode cX7_noWay 53 = .ok (.iload 4, 2) := by decide +kernel
theorem dX7_noWay_55 : decode cX7_noWay 55 = .ok (.iaload, 1) := by decide +kernel
theorem dX7_noWay_56 : decode cX7_noWay 56 = .ok (.iconst 2, 1) := by decide +kernel
theorem dX7_noWay_57 : decode cX7_noWay 57 = .ok (.if_icmp .ne 10, 3) := by decide +kernel
theorem dX7_noWay_60 : decode cX7_noWay 60 = .ok (.aload_n 0, 1) := by decide +kernel
theorem dX7_noWay_61 : decode cX7_noWay 61 = .ok (.bipush (-3), 2) := by decide +kernel
theorem dX7_noWay_63 : decode cX7_noWay 63 = .ok (.invokevirtual 89, 3) := by decide +kernel
theorem dX7_noWay_66 : decode cX7_noWay 66 = .ok (.ireturn, 1) := by decide +kernel
theorem dX7_noWay_67 : decode cX7_noWay 67 = .ok (.aload_n 0, 1) := by decide +kernel
theorem dX7_noWay_68 : decode cX7_noWay 68 = .ok (.getfield 7, 3) := by decide +kernel
theorem dX7_noWay_71 : decode cX7_noWay 71 = .ok (.iload 4, 2) := by decide +kernel
theorem dX7_noWay_73 : decode cX7_noWay 73 = .ok (.iaload, 1) := by decide +kernel
theorem dX7_noWay_74 : decode cX7_noWay 74 = .ok (.ifCond .ne 10, 3) := by decide +kernel
theorem dX7_noWay_77 : decode cX7_noWay 77 = .ok (.aload_n 0, 1) := by decide +kernel
theorem dX7_noWay_78 : decode cX7_noWay 78 = .ok (.bipush (-4), 2) := by decide +kernel
theorem dX7_noWay_80 : decode cX7_noWay 80 = .ok (.invokevirtual 89, 3) := by decide +kernel
theorem dX7_noWay_83 : decode cX7_noWay 83 = .ok (.ireturn, 1) := by decide +kernel
theorem dX7_noWay_84 : decode cX7_noWay 84 = .ok (.aload_n 0, 1) := by decide +kernel
theorem dX7_noWay_85 : decode cX7_noWay 85 = .ok (.getfield 16, 3) := by decide +kernel
theorem dX7_noWay_88 : decode cX7_noWay 88 = .ok (.iload 4, 2) := by decide +kernel
theorem dX7_noWay_90 : decode cX7_noWay 90 = .ok (.iaload, 1) := by decide +kernel
theorem dX7_noWay_91 : decode cX7_noWay 91 = .ok (.iload 5, 2) := by decide +kernel
theorem dX7_noWay_93 : decode cX7_noWay 93 = .ok (.if_icmp .ge 12, 3) := by decide +kernel
theorem dX7_noWay_96 : decode cX7_noWay 96 = .ok (.aload_n 0, 1) := by decide +kernel
theorem dX7_noWay_97 : decode cX7_noWay 97 = .ok (.bipush (-2), 2) := by decide +kernel
theorem dX7_noWay_99 : decode cX7_noWay 99 = .ok (.invokevirtual 89, 3) := by decide +kernel
theorem dX7_noWay_102 : decode cX7_noWay 102 = .ok (.goto 4, 3) := by decide +kernel
theorem dX7_noWay_105 : decode cX7_noWay 105 = .ok (.iconst 0, 1) := by decide +kernel
theorem dX7_noWay_106 : decode cX7_noWay 106 = .ok (.ireturn, 1) := by decide +kernel
theorem dX7_reach_0 : decode cX7_reach 0 = .ok (.aload_n 0, 1) := by decide +kernel
theorem dX7_reach_1 : decode cX7_reach 1 = .ok (.iload_n 1, 1) := by decide +kernel
theorem dX7_reach_2 : decode cX7_reach 2 = .ok (.iload_n 2, 1) := by decide +kernel
theorem dX7_reach_3 : decode cX7_reach 3 = .ok (.invokevirtual 260, 3) := by decide +kernel
theorem dX7_reach_6 : decode cX7_reach 6 = .ok (.ifCond .eq 10, 3) := by decide +kernel
theorem dX7_reach_9 : decode cX7_reach 9 = .ok (.iload_n 3, 1) := by decide +kernel
theorem dX7_reach_10 : decode cX7_reach 10 = .ok (.invokestatic 113, 3) := by decide +kernel
theorem dX7_reach_13 : decode cX7_reach 13 = .ok (.ifCond .ne 10, 3) := by decide +kernel
theorem dX7_reach_16 : decode cX7_reach 16 = .ok (.aload_n 0, 1) := by decide +kernel
theorem dX7_reach_17 : decode cX7_reach 17 = .ok (.bipush (-2), 2) := by decide +kernel
theorem dX7_reach_19 : decode cX7_reach 19 = .ok (.invokevirtual 89, 3) := by decide +kernel
theorem dX7_reach_22 : decode cX7_reach 22 = .ok (.ireturn, 1) := by decide +kernel
theorem dX7_reach_23 : decode cX7_reach 23 = .ok (.aload_n 0, 1) := by decide +kernel
theorem dX7_reach_24 : decode cX7_reach 24 = .ok (.iload_n 1, 1) := by decide +kernel
theorem dX7_reach_25 : decode cX7_reach 25 = .ok (.iload_n 2, 1) := by decide +kernel
theorem dX7_reach_26 : decode cX7_reach 26 = .ok (.iload_n 3, 1) := by decide +kernel
theorem dX7_reach_27 : decode cX7_reach 27 = .ok (.iconst 1, 1) := by decide +kernel
theorem dX7_reach_28 : decode cX7_reach 28 = .ok (.invokevirtual 294, 3) := by decide +kernel
theorem dX7_reach_31 : decode cX7_reach 31 = .ok (.iconst 0, 1) := by decide +kernel
theorem dX7_reach_32 : decode cX7_reach 32 = .ok (.istore 4, 2) := by decide +kernel
theorem dX7_reach_34 : decode cX7_reach 34 = .ok (.iconst 0, 1) := by decide +kernel
theorem dX7_reach_35 : decode cX7_reach 35 = .ok (.istore 5, 2) := by decide +kernel
theorem dX7_reach_37 : decode cX7_reach 37 = .ok (.iload 5, 2) := by decide +kernel
theorem dX7_reach_39 : decode cX7_reach 39 = .ok (.bipush 16, 2) := by decide +kernel
theorem dX7_reach_41 : decode cX7_reach 41 = .ok (.if_icmp .ge 36, 3) := by decide +kernel
theorem dX7_reach_44 : decode cX7_reach 44 = .ok (.iload 4, 2) := by decide +kernel
theorem dX7_reach_46 : decode cX7_reach 46 = .ok (.aload_n 0, 1) := by decide +kernel
theorem dX7_reach_47 : decode cX7_reach 47 = .ok (.getfield 57, 3) := by decide +kernel
theorem dX7_reach_50 : decode cX7_reach 50 = .ok (.iload 5, 2) := by decide +kernel
theorem dX7_reach_52 : decode cX7_reach 52 = .ok (.laload, 1) := by decide +kernel
theorem dX7_reach_53 : decode cX7_reach 53 = .ok (.ldc2_w 292, 3) := by decide +kernel
theorem dX7_reach_56 : decode cX7_reach 56 = .ok (.lcmp, 1) := by decide +kernel
theorem dX7_reach_57 : decode cX7_reach 57 = .ok (.ifCond .ge 10, 3) := by decide +kernel
theorem dX7_reach_60 : decode cX7_reach 60 = .ok (.iconst 1, 1) := by decide +kernel
theorem dX7_reach_61 : decode cX7_reach 61 = .ok (.iload 5, 2) := by decide +kernel
theorem dX7_reach_63 : decode cX7_reach 63 = .ok (.ishl, 1) := by decide +kernel
theorem dX7_reach_64 : decode cX7_reach 64 = .ok (.goto 4, 3) := by decide +kernel
theorem dX7_reach_67 : decode cX7_reach 67 = .ok (.iconst 0, 1) := by decide +kernel
theorem dX7_reach_68 : decode cX7_reach 68 = .ok (.ior, 1) := by decide +kernel
theorem dX7_reach_69 : decode cX7_reach 69 = .ok (.istore 4, 2) := by decide +kernel
theorem dX7_reach_71 : decode cX7_reach 71 = .ok (.iinc 5 1, 3) := by decide +kernel
theorem dX7_reach_74 : decode cX7_reach 74 = .ok (.goto (-37), 3) := by decide +kernel
theorem dX7_reach_77 : decode cX7_reach 77 = .ok (.iload 4, 2) := by decide +kernel
theorem dX7_reach_79 : decode cX7_reach 79 = .ok (.ireturn, 1) := by decide +kernel
theorem dX7_soonest_0 : decode cX7_soonest 0 = .ok (.aload_n 0, 1) := by decide +kernel
theorem dX7_soonest_1 : decode cX7_soonest 1 = .ok (.iload_n 1, 1) := by decide +kernel
theorem dX7_soonest_2 : decode cX7_soonest 2 = .ok (.iload_n 2, 1) := by decide +kernel
theorem dX7_soonest_3 : decode cX7_soonest 3 = .ok (.invokevirtual 260, 3) := by decide +kernel
theorem dX7_soonest_6 : decode cX7_soonest 6 = .ok (.ifCond .eq 18, 3) := by decide +kernel
theorem dX7_soonest_9 : decode cX7_soonest 9 = .ok (.iload_n 3, 1) := by decide +kernel
theorem dX7_soonest_10 : decode cX7_soonest 10 = .ok (.invokestatic 113, 3) := by decide +kernel
theorem dX7_soonest_13 : decode cX7_soonest 13 = .ok (.ifCond .eq 11, 3) := by decide +kernel
theorem dX7_soonest_16 : decode cX7_soonest 16 = .ok (.iload 4, 2) := by decide +kernel
theorem dX7_soonest_18 : decode cX7_soonest 18 = .ok (.invokestatic 113, 3) := by decide +kernel
theorem dX7_soonest_21 : decode cX7_soonest 21 = .ok (.ifCond .ne 10, 3) := by decide +kernel
theorem dX7_soonest_24 : decode cX7_soonest 24 = .ok (.aload_n 0, 1) := by decide +kernel
theorem dX7_soonest_25 : decode cX7_soonest 25 = .ok (.bipush (-2), 2) := by decide +kernel
theorem dX7_soonest_27 : decode cX7_soonest 27 = .ok (.invokevirtual 89, 3) := by decide +kernel
theorem dX7_soonest_30 : decode cX7_soonest 30 = .ok (.ireturn, 1) := by decide +kernel
theorem dX7_soonest_31 : decode cX7_soonest 31 = .ok (.aload_n 0, 1) := by decide +kernel
theorem dX7_soonest_32 : decode cX7_soonest 32 = .ok (.iload_n 1, 1) := by decide +kernel
theorem dX7_soonest_33 : decode cX7_soonest 33 = .ok (.iload_n 2, 1) := by decide +kernel
theorem dX7_soonest_34 : decode cX7_soonest 34 = .ok (.iload 4, 2) := by decide +kernel
theorem dX7_soonest_36 : decode cX7_soonest 36 = .ok (.iconst 0, 1) := by decide +kernel
theorem dX7_soonest_37 : decode cX7_soonest 37 = .ok (.invokevirtual 294, 3) := by decide +kernel
theorem dX7_soonest_40 : decode cX7_soonest 40 = .ok (.aload_n 0, 1) := by decide +kernel
theorem dX7_soonest_41 : decode cX7_soonest 41 = .ok (.getfield 57, 3) := by decide +kernel
theorem dX7_soonest_44 : decode cX7_soonest 44 = .ok (.iload_n 3, 1) := by decide +kernel
theorem dX7_soonest_45 : decode cX7_soonest 45 = .ok (.laload, 1) := by decide +kernel
theorem dX7_soonest_46 : decode cX7_soonest 46 = .ok (.ldc2_w 292, 3) := by decide +kernel
theorem dX7_soonest_49 : decode cX7_soonest 49 = .ok (.lcmp, 1) := by decide +kernel
theorem dX7_soonest_50 : decode cX7_soonest 50 = .ok (.ifCond .lt 12, 3) := by decide +kernel
theorem dX7_soonest_53 : decode cX7_soonest 53 = .ok (.aload_n 0, 1) := by decide +kernel
theorem dX7_soonest_54 : decode cX7_soonest 54 = .ok (.bipush (-5), 2) := by decide +kernel
theorem dX7_soonest_56 : decode cX7_soonest 56 = .ok (.invokevirtual 89, 3) := by decide +kernel
theorem dX7_soonest_59 : decode cX7_soonest 59 = .ok (.goto 10, 3) := by decide +kernel
theorem dX7_soonest_62 : decode cX7_soonest 62 = .ok (.aload_n 0, 1) := by decide +kernel
theorem dX7_soonest_63 : decode cX7_soonest 63 = .ok (.getfield 57, 3) := by decide +kernel
theorem dX7_soonest_66 : decode cX7_soonest 66 = .ok (.iload_n 3, 1) := by decide +kernel
theorem dX7_soonest_67 : decode cX7_soonest 67 = .ok (.laload, 1) := by decide +kernel
theorem dX7_soonest_68 : decode cX7_soonest 68 = .ok (.l2i, 1) := by decide +kernel
theorem dX7_soonest_69 : decode cX7_soonest 69 = .ok (.ireturn, 1) := by decide +kernel
theorem dX7_status_0 : decode cX7_status 0 = .ok (.iconst 0, 1) := by decide +kernel
theorem dX7_status_1 : decode cX7_status 1 = .ok (.istore_n 2, 1) := by decide +kernel
theorem dX7_status_2 : decode cX7_status 2 = .ok (.iload_n 1, 1) := by decide +kernel
theorem dX7_status_3 : decode cX7_status 3 = .ok (.tableswitch 134 0 7 #[45, 50, 55, 60, 65, 70, 103, 103], 45) := by decide +kernel
theorem dX7_status_48 : decode cX7_status 48 = .ok (.aload_n 0, 1) := by decide +kernel
theorem dX7_status_49 : decode cX7_status 49 = .ok (.getfield 66, 3) := by decide +kernel
theorem dX7_status_52 : decode cX7_status 52 = .ok (.ireturn, 1) := by decide +kernel
theorem dX7_status_53 : decode cX7_status 53 = .ok (.aload_n 0, 1) := by decide +kernel
theorem dX7_status_54 : decode cX7_status 54 = .ok (.getfield 70, 3) := by decide +kernel
theorem dX7_status_57 : decode cX7_status 57 = .ok (.ireturn, 1) := by decide +kernel
theorem dX7_status_58 : decode cX7_status 58 = .ok (.aload_n 0, 1) := by decide +kernel
theorem dX7_status_59 : decode cX7_status 59 = .ok (.getfield 73, 3) := by decide +kernel
theorem dX7_status_62 : decode cX7_status 62 = .ok (.ireturn, 1) := by decide +kernel
theorem dX7_status_63 : decode cX7_status 63 = .ok (.aload_n 0, 1) := by decide +kernel
theorem dX7_status_64 : decode cX7_status 64 = .ok (.getfield 80, 3) := by decide +kernel
theorem dX7_status_67 : decode cX7_status 67 = .ok (.ireturn, 1) := by decide +kernel
theorem dX7_status_68 : decode cX7_status 68 = .ok (.aload_n 0, 1) := by decide +kernel
theorem dX7_status_69 : decode cX7_status 69 = .ok (.getfield 140, 3) := by decide +kernel
theorem dX7_status_72 : decode cX7_status 72 = .ok (.ireturn, 1) := by decide +kernel
theorem dX7_status_73 : decode cX7_status 73 = .ok (.iconst 0, 1) := by decide +kernel
theorem dX7_status_74 : decode cX7_status 74 = .ok (.istore_n 3, 1) := by decide +kernel
theorem dX7_status_75 : decode cX7_status 75 = .ok (.iload_n 3, 1) := by decide +kernel
theorem dX7_status_76 : decode cX7_status 76 = .ok (.bipush 8, 2) := by decide +kernel
theorem dX7_status_78 : decode cX7_status 78 = .ok (.if_icmp .ge 26, 3) := by decide +kernel
theorem dX7_status_81 : decode cX7_status 81 = .ok (.iload_n 2, 1) := by decide +kernel
theorem dX7_status_82 : decode cX7_status 82 = .ok (.aload_n 0, 1) := by decide +kernel
theorem dX7_status_83 : decode cX7_status 83 = .ok (.getfield 7, 3) := by decide +kernel
theorem dX7_status_86 : decode cX7_status 86 = .ok (.iload_n 3, 1) := by decide +kernel
theorem dX7_status_87 : decode cX7_status 87 = .ok (.iaload, 1) := by decide +kernel
theorem dX7_status_88 : decode cX7_status 88 = .ok (.ifCond .eq 7, 3) := by decide +kernel
theorem dX7_status_91 : decode cX7_status 91 = .ok (.iconst 1, 1) := by decide +kernel
theorem dX7_status_92 : decode cX7_status 92 = .ok (.goto 4, 3) := by decide +kernel
theorem dX7_status_95 : decode cX7_status 95 = .ok (.iconst 0, 1) := by decide +kernel
theorem dX7_status_96 : decode cX7_status 96 = .ok (.iadd, 1) := by decide +kernel
theorem dX7_status_97 : decode cX7_status 97 = .ok (.istore_n 2, 1) := by decide +kernel
theorem dX7_status_98 : decode cX7_status 98 = .ok (.iinc 3 1, 3) := by decide +kernel
theorem dX7_status_101 : decode cX7_status 101 = .ok (.goto (-26), 3) := by decide +kernel
theorem dX7_status_104 : decode cX7_status 104 = .ok (.iload_n 2, 1) := by decide +kernel
theorem dX7_status_105 : decode cX7_status 105 = .ok (.ireturn, 1) := by decide +kernel
theorem dX7_status_106 : decode cX7_status 106 = .ok (.iconst 0, 1) := by decide +kernel
theorem dX7_status_107 : decode cX7_status 107 = .ok (.istore_n 3, 1) := by decide +kernel
theorem dX7_status_108 : decode cX7_status 108 = .ok (.iload_n 3, 1) := by decide +kernel
theorem dX7_status_109 : decode cX7_status 109 = .ok (.aload_n 0, 1) := by decide +kernel
theorem dX7_status_110 : decode cX7_status 110 = .ok (.getfield 70, 3) := by decide +kernel
theorem dX7_status_113 : decode cX7_status 113 = .ok (.if_icmp .ge 22, 3) := by decide +kernel
theorem dX7_status_116 : decode cX7_status 116 = .ok (.iload_n 2, 1) := by decide +kernel
theorem dX7_status_117 : decode cX7_status 117 = .ok (.aload_n 0, 1) := by decide +kernel
theorem dX7_status_118 : decode cX7_status 118 = .ok (.getfield 42, 3) := by decide +kernel
theorem dX7_status_121 : decode cX7_status 121 = .ok (.iload_n 3, 1) := by decide +kernel
theorem dX7_status_122 : decode cX7_status 122 = .ok (.aaload, 1) := by decide +kernel
theorem dX7_status_123 : decode cX7_status 123 = .ok (.iload_n 1, 1) := by decide +kernel
theorem dX7_status_124 : decode cX7_status 124 = .ok (.iconst 1, 1) := by decide +kernel
theorem dX7_status_125 : decode cX7_status 125 = .ok (.iadd, 1) := by decide +kernel
theorem dX7_status_126 : decode cX7_status 126 = .ok (.iaload, 1) := by decide +kernel
theorem dX7_status_127 : decode cX7_status 127 = .ok (.iadd, 1) := by decide +kernel
theorem dX7_status_128 : decode cX7_status 128 = .ok (.istore_n 2, 1) := by decide +kernel
theorem dX7_status_129 : decode cX7_status 129 = .ok (.iinc 3 1, 3) := by decide +kernel
theorem dX7_status_132 : decode cX7_status 132 = .ok (.goto (-24), 3) := by decide +kernel
theorem dX7_status_135 : decode cX7_status 135 = .ok (.iload_n 2, 1) := by decide +kernel
theorem dX7_status_136 : decode cX7_status 136 = .ok (.ireturn, 1) := by decide +kernel
theorem dX7_status_137 : decode cX7_status 137 = .ok (.iload_n 1, 1) := by decide +kernel
theorem dX7_status_138 : decode cX7_status 138 = .ok (.i2l, 1) := by decide +kernel
theorem dX7_status_139 : decode cX7_status 139 = .ok (.ldc2_w 136, 3) := by decide +kernel
theorem dX7_status_142 : decode cX7_status 142 = .ok (.ldc2_w 344, 3) := by decide +kernel
theorem dX7_status_145 : decode cX7_status 145 = .ok (.invokestatic 62, 3) := by decide +kernel
theorem dX7_status_148 : decode cX7_status 148 = .ok (.ifCond .eq 15, 3) := by decide +kernel
theorem dX7_status_151 : decode cX7_status 151 = .ok (.aload_n 0, 1) := by decide +kernel
theorem dX7_status_152 : decode cX7_status 152 = .ok (.getfield 34, 3) := by decide +kernel
theorem dX7_status_155 : decode cX7_status 155 = .ok (.iload_n 1, 1) := by decide +kernel
theorem dX7_status_156 : decode cX7_status 156 = .ok (.bipush 10, 2) := by decide +kernel
theorem dX7_status_158 : decode cX7_status 158 = .ok (.isub, 1) := by decide +kernel
theorem dX7_status_159 : decode cX7_status 159 = .ok (.iaload, 1) := by decide +kernel
theorem dX7_status_160 : decode cX7_status 160 = .ok (.goto 4, 3) := by decide +kernel
theorem dX7_status_163 : decode cX7_status 163 = .ok (.iconst (-1), 1) := by decide +kernel
theorem dX7_status_164 : decode cX7_status 164 = .ok (.ireturn, 1) := by decide +kernel
theorem dX7_step_0 : decode cX7_step 0 = .ok (.aload_n 0, 1) := by decide +kernel
theorem dX7_step_1 : decode cX7_step 1 = .ok (.getfield 54, 3) := by decide +kernel
theorem dX7_step_4 : decode cX7_step 4 = .ok (.iconst 0, 1) := by decide +kernel
theorem dX7_step_5 : decode cX7_step 5 = .ok (.iaload, 1) := by decide +kernel
theorem dX7_step_6 : decode cX7_step 6 = .ok (.ifCond .eq 18, 3) := by decide +kernel
theorem dX7_step_9 : decode cX7_step 9 = .ok (.aload_n 0, 1) := by decide +kernel
theorem dX7_step_10 : decode cX7_step 10 = .ok (.getfield 54, 3) := by decide +kernel
theorem dX7_step_13 : decode cX7_step 13 = .ok (.iconst 3, 1) := by decide +kernel
theorem dX7_step_14 : decode cX7_step 14 = .ok (.iaload, 1) := by decide +kernel
theorem dX7_step_15 : decode cX7_step 15 = .ok (.aload_n 0, 1) := by decide +kernel
theorem dX7_step_16 : decode cX7_step 16 = .ok (.getfield 54, 3) := by decide +kernel
theorem dX7_step_19 : decode cX7_step 19 = .ok (.iconst 4, 1) := by decide +kernel
theorem dX7_step_20 : decode cX7_step 20 = .ok (.iaload, 1) := by decide +kernel
theorem dX7_step_21 : decode cX7_step 21 = .ok (.if_icmp .ne 10, 3) := by decide +kernel
theorem dX7_step_24 : decode cX7_step 24 = .ok (.aload_n 0, 1) := by decide +kernel
theorem dX7_step_25 : decode cX7_step 25 = .ok (.bipush (-5), 2) := by decide +kernel
theorem dX7_step_27 : decode cX7_step 27 = .ok (.invokevirtual 89, 3) := by decide +kernel
theorem dX7_step_30 : decode cX7_step 30 = .ok (.ireturn, 1) := by decide +kernel
theorem dX7_step_31 : decode cX7_step 31 = .ok (.aload_n 0, 1) := by decide +kernel
theorem dX7_step_32 : decode cX7_step 32 = .ok (.getfield 54, 3) := by decide +kernel
theorem dX7_step_35 : decode cX7_step 35 = .ok (.iconst 1, 1) := by decide +kernel
theorem dX7_step_36 : decode cX7_step 36 = .ok (.iaload, 1) := by decide +kernel
theorem dX7_step_37 : decode cX7_step 37 = .ok (.istore_n 1, 1) := by decide +kernel
theorem dX7_step_38 : decode cX7_step 38 = .ok (.aload_n 0, 1) := by decide +kernel
theorem dX7_step_39 : decode cX7_step 39 = .ok (.getfield 54, 3) := by decide +kernel
theorem dX7_step_42 : decode cX7_step 42 = .ok (.iconst 2, 1) := by decide +kernel
theorem dX7_step_43 : decode cX7_step 43 = .ok (.iaload, 1) := by decide +kernel
theorem dX7_step_44 : decode cX7_step 44 = .ok (.istore_n 2, 1) := by decide +kernel
theorem dX7_step_45 : decode cX7_step 45 = .ok (.aload_n 0, 1) := by decide +kernel
theorem dX7_step_46 : decode cX7_step 46 = .ok (.iload_n 1, 1) := by decide +kernel
theorem dX7_step_47 : decode cX7_step 47 = .ok (.iload_n 2, 1) := by decide +kernel
theorem dX7_step_48 : decode cX7_step 48 = .ok (.aload_n 0, 1) := by decide +kernel
theorem dX7_step_49 : decode cX7_step 49 = .ok (.getfield 54, 3) := by decide +kernel
theorem dX7_step_52 : decode cX7_step 52 = .ok (.iconst 4, 1) := by decide +kernel
theorem dX7_step_53 : decode cX7_step 53 = .ok (.iaload, 1) := by decide +kernel
theorem dX7_step_54 : decode cX7_step 54 = .ok (.iconst 1, 1) := by decide +kernel
theorem dX7_step_55 : decode cX7_step 55 = .ok (.invokevirtual 294, 3) := by decide +kernel
theorem dX7_step_58 : decode cX7_step 58 = .ok (.iconst 0, 1) := by decide +kernel
theorem dX7_step_59 : decode cX7_step 59 = .ok (.istore_n 3, 1) := by decide +kernel
theorem dX7_step_60 : decode cX7_step 60 = .ok (.iload_n 3, 1) := by decide +kernel
theorem dX7_step_61 : decode cX7_step 61 = .ok (.aload_n 0, 1) := by decide +kernel
theorem dX7_step_62 : decode cX7_step 62 = .ok (.getfield 66, 3) := by decide +kernel
theorem dX7_step_65 : decode cX7_step 65 = .ok (.if_icmp .ge 261, 3) := by decide +kernel
theorem dX7_step_68 : decode cX7_step 68 = .ok (.aload_n 0, 1) := by decide +kernel
theorem dX7_step_69 : decode cX7_step 69 = .ok (.getfield 57, 3) := by decide +kernel
theorem dX7_step_72 : decode cX7_step 72 = .ok (.aload_n 0, 1) := by decide +kernel
theorem dX7_step_73 : decode cX7_step 73 = .ok (.getfield 54, 3) := by decide +kernel
theorem dX7_step_76 : decode cX7_step 76 = .ok (.iconst 3, 1) := by decide +kernel
theorem dX7_step_77 : decode cX7_step 77 = .ok (.iaload, 1) := by decide +kernel
theorem dX7_step_78 : decode cX7_step 78 = .ok (.laload, 1) := by decide +kernel
theorem dX7_step_79 : decode cX7_step 79 = .ok (.ldc2_w 292, 3) := by decide +kernel
theorem dX7_step_82 : decode cX7_step 82 = .ok (.lcmp, 1) := by decide +kernel
theorem dX7_step_83 : decode cX7_step 83 = .ok (.ifCond .ge 243, 3) := by decide +kernel
theorem dX7_step_86 : decode cX7_step 86 = .ok (.aload_n 0, 1) := by decide +kernel
theorem dX7_step_87 : decode cX7_step 87 = .ok (.getfield 39, 3) := by decide +kernel
theorem dX7_step_90 : decode cX7_step 90 = .ok (.iload_n 3, 1) := by decide +kernel
theorem dX7_step_91 : decode cX7_step 91 = .ok (.aaload, 1) := by decide +kernel
theorem dX7_step_92 : decode cX7_step 92 = .ok (.iconst 0, 1) := by decide +kernel
theorem dX7_step_93 : decode cX7_step 93 = .ok (.iaload, 1) := by decide +kernel
theorem dX7_step_94 : decode cX7_step 94 = .ok (.aload_n 0, 1) := by decide +kernel
theorem dX7_step_95 : decode cX7_step 95 = .ok (.getfield 54, 3) := by decide +kernel
theorem dX7_step_98 : decode cX7_step 98 = .ok (.iconst 3, 1) := by decide +kernel
theorem dX7_step_99 : decode cX7_step 99 = .ok (.iaload, 1) := by decide +kernel
theorem dX7_step_100 : decode cX7_step 100 = .ok (.if_icmp .eq 20, 3) := by decide +kernel
theorem dX7_step_103 : decode cX7_step 103 = .ok (.aload_n 0, 1) := by decide +kernel
theorem dX7_step_104 : decode cX7_step 104 = .ok (.getfield 39, 3) := by decide +kernel
theorem dX7_step_107 : decode cX7_step 107 = .ok (.iload_n 3, 1) := by decide +kernel
theorem dX7_step_108 : decode cX7_step 108 = .ok (.aaload, 1) := by decide +kernel
theorem dX7_step_109 : decode cX7_step 109 = .ok (.iconst 1, 1) := by decide +kernel
theorem dX7_step_110 : decode cX7_step 110 = .ok (.iaload, 1) := by decide +kernel
theorem dX7_step_111 : decode cX7_step 111 = .ok (.aload_n 0, 1) := by decide +kernel
theorem dX7_step_112 : decode cX7_step 112 = .ok (.getfield 54, 3) := by decide +kernel
theorem dX7_step_115 : decode cX7_step 115 = .ok (.iconst 3, 1) := by decide +kernel
theorem dX7_step_116 : decode cX7_step 116 = .ok (.iaload, 1) := by decide +kernel
theorem dX7_step_117 : decode cX7_step 117 = .ok (.if_icmp .ne 7, 3) := by decide +kernel
theorem dX7_step_120 : decode cX7_step 120 = .ok (.iconst 1, 1) := by decide +kernel
theorem dX7_step_121 : decode cX7_step 121 = .ok (.goto 4, 3) := by decide +kernel
theorem dX7_step_124 : decode cX7_step 124 = .ok (.iconst 0, 1) := by decide +kernel
theorem dX7_step_125 : decode cX7_step 125 = .ok (.istore 4, 2) := by decide +kernel
theorem dX7_step_127 : decode cX7_step 127 = .ok (.aload_n 0, 1) := by decide +kernel
theorem dX7_step_128 : decode cX7_step 128 = .ok (.getfield 39, 3) := by decide +kernel
theorem dX7_step_131 : decode cX7_step 131 = .ok (.iload_n 3, 1) := by decide +kernel
theorem dX7_step_132 : decode cX7_step 132 = .ok (.aaload, 1) := by decide +kernel
theorem dX7_step_133 : decode cX7_step 133 = .ok (.iconst 0, 1) := by decide +kernel
theorem dX7_step_134 : decode cX7_step 134 = .ok (.iaload, 1) := by decide +kernel
theorem dX7_step_135 : decode cX7_step 135 = .ok (.aload_n 0, 1) := by decide +kernel
theorem dX7_step_136 : decode cX7_step 136 = .ok (.getfield 54, 3) := by decide +kernel
theorem dX7_step_139 : decode cX7_step 139 = .ok (.iconst 3, 1) := by decide +kernel
theorem dX7_step_140 : decode cX7_step 140 = .ok (.iaload, 1) := by decide +kernel
theorem dX7_step_141 : decode cX7_step 141 = .ok (.if_icmp .ne 14, 3) := by decide +kernel
theorem dX7_step_144 : decode cX7_step 144 = .ok (.aload_n 0, 1) := by decide +kernel
theorem dX7_step_145 : decode cX7_step 145 = .ok (.getfield 39, 3) := by decide +kernel
theorem dX7_step_148 : decode cX7_step 148 = .ok (.iload_n 3, 1) := by decide +kernel
theorem dX7_step_149 : decode cX7_step 149 = .ok (.aaload, 1) := by decide +kernel
theorem dX7_step_150 : decode cX7_step 150 = .ok (.iconst 1, 1) := by decide +kernel
theorem dX7_step_151 : decode cX7_step 151 = .ok (.iaload, 1) := by decide +kernel
theorem dX7_step_152 : decode cX7_step 152 = .ok (.goto 11, 3) := by decide +kernel
theorem dX7_step_155 : decode cX7_step 155 = .ok (.aload_n 0, 1) := by decide +kernel
theorem dX7_step_156 : decode cX7_step 156 = .ok (.getfield 39, 3) := by decide +kernel
theorem dX7_step_159 : decode cX7_step 159 = .ok (.iload_n 3, 1) := by decide +kernel
theorem dX7_step_160 : decode cX7_step 160 = .ok (.aaload, 1) := by decide +kernel
theorem dX7_step_161 : decode cX7_step 161 = .ok (.iconst 0, 1) := by decide +kernel
theorem dX7_step_162 : decode cX7_step 162 = .ok (.iaload, 1) := by decide +kernel
theorem dX7_step_163 : decode cX7_step 163 = .ok (.istore 5, 2) := by decide +kernel
theorem dX7_step_165 : decode cX7_step 165 = .ok (.iload 4, 2) := by decide +kernel
theorem dX7_step_167 : decode cX7_step 167 = .ok (.ifCond .eq 153, 3) := by decide +kernel
theorem dX7_step_170 : decode cX7_step 170 = .ok (.aload_n 0, 1) := by decide +kernel
theorem dX7_step_171 : decode cX7_step 171 = .ok (.iload_n 1, 1) := by decide +kernel
theorem dX7_step_172 : decode cX7_step 172 = .ok (.iload_n 2, 1) := by decide +kernel
theorem dX7_step_173 : decode cX7_step 173 = .ok (.iload_n 3, 1) := by decide +kernel
theorem dX7_step_174 : decode cX7_step 174 = .ok (.invokevirtual 281, 3) := by decide +kernel
theorem dX7_step_177 : decode cX7_step 177 = .ok (.ifCond .eq 143, 3) := by decide +kernel
theorem dX7_step_180 : decode cX7_step 180 = .ok (.aload_n 0, 1) := by decide +kernel
theorem dX7_step_181 : decode cX7_step 181 = .ok (.iload_n 1, 1) := by decide +kernel
theorem dX7_step_182 : decode cX7_step 182 = .ok (.iload_n 2, 1) := by decide +kernel
theorem dX7_step_183 : decode cX7_step 183 = .ok (.iload_n 3, 1) := by decide +kernel
theorem dX7_step_184 : decode cX7_step 184 = .ok (.iconst 1, 1) := by decide +kernel
theorem dX7_step_185 : decode cX7_step 185 = .ok (.invokevirtual 285, 3) := by decide +kernel
theorem dX7_step_188 : decode cX7_step 188 = .ok (.i2l, 1) := by decide +kernel
theorem dX7_step_189 : decode cX7_step 189 = .ok (.aload_n 0, 1) := by decide +kernel
theorem dX7_step_190 : decode cX7_step 190 = .ok (.getfield 57, 3) := by decide +kernel
theorem dX7_step_193 : decode cX7_step 193 = .ok (.iload 5, 2) := by decide +kernel
theorem dX7_step_195 : decode cX7_step 195 = .ok (.laload, 1) := by decide +kernel
theorem dX7_step_196 : decode cX7_step 196 = .ok (.ladd, 1) := by decide +kernel
theorem dX7_step_197 : decode cX7_step 197 = .ok (.aload_n 0, 1) := by decide +kernel
theorem dX7_step_198 : decode cX7_step 198 = .ok (.getfield 57, 3) := by decide +kernel
theorem dX7_step_201 : decode cX7_step 201 = .ok (.aload_n 0, 1) := by decide +kernel
theorem dX7_step_202 : decode cX7_step 202 = .ok (.getfield 54, 3) := by decide +kernel
theorem dX7_step_205 : decode cX7_step 205 = .ok (.iconst 3, 1) := by decide +kernel
theorem dX7_step_206 : decode cX7_step 206 = .ok (.iaload, 1) := by decide +kernel
theorem dX7_step_207 : decode cX7_step 207 = .ok (.laload, 1) := by decide +kernel
theorem dX7_step_208 : decode cX7_step 208 = .ok (.lcmp, 1) := by decide +kernel
theorem dX7_step_209 : decode cX7_step 209 = .ok (.ifCond .ne 111, 3) := by decide +kernel
theorem dX7_step_212 : decode cX7_step 212 = .ok (.aload_n 0, 1) := by decide +kernel
theorem dX7_step_213 : decode cX7_step 213 = .ok (.dup, 1) := by decide +kernel
theorem dX7_step_214 : decode cX7_step 214 = .ok (.getfield 324, 3) := by decide +kernel
theorem dX7_step_217 : decode cX7_step 217 = .ok (.aload_n 0, 1) := by decide +kernel
theorem dX7_step_218 : decode cX7_step 218 = .ok (.iload_n 1, 1) := by decide +kernel
theorem dX7_step_219 : decode cX7_step 219 = .ok (.iload_n 2, 1) := by decide +kernel
theorem dX7_step_220 : decode cX7_step 220 = .ok (.iload_n 3, 1) := by decide +kernel
theorem dX7_step_221 : decode cX7_step 221 = .ok (.iconst 1, 1) := by decide +kernel
theorem dX7_step_222 : decode cX7_step 222 = .ok (.invokevirtual 285, 3) := by decide +kernel
theorem dX7_step_225 : decode cX7_step 225 = .ok (.iadd, 1) := by decide +kernel
theorem dX7_step_226 : decode cX7_step 226 = .ok (.putfield 324, 3) := by decide +kernel
theorem dX7_step_229 : decode cX7_step 229 = .ok (.aload_n 0, 1) := by decide +kernel
theorem dX7_step_230 : decode cX7_step 230 = .ok (.getfield 54, 3) := by decide +kernel
theorem dX7_step_233 : decode cX7_step 233 = .ok (.iconst 5, 1) := by decide +kernel
theorem dX7_step_234 : decode cX7_step 234 = .ok (.dup2, 1) := by decide +kernel
theorem dX7_step_235 : decode cX7_step 235 = .ok (.iaload, 1) := by decide +kernel
theorem dX7_step_236 : decode cX7_step 236 = .ok (.aload_n 0, 1) := by decide +kernel
theorem dX7_step_237 : decode cX7_step 237 = .ok (.iload_n 1, 1) := by decide +kernel
theorem dX7_step_238 : decode cX7_step 238 = .ok (.iload_n 2, 1) := by decide +kernel
theorem dX7_step_239 : decode cX7_step 239 = .ok (.iload_n 3, 1) := by decide +kernel
theorem dX7_step_240 : decode cX7_step 240 = .ok (.invokevirtual 289, 3) := by decide +kernel
theorem dX7_step_243 : decode cX7_step 243 = .ok (.iadd, 1) := by decide +kernel
theorem dX7_step_244 : decode cX7_step 244 = .ok (.iastore, 1) := by decide +kernel
theorem dX7_step_245 : decode cX7_step 245 = .ok (.aload_n 0, 1) := by decide +kernel
theorem dX7_step_246 : decode cX7_step 246 = .ok (.getfield 54, 3) := by decide +kernel
theorem dX7_step_249 : decode cX7_step 249 = .ok (.bipush 6, 2) := by decide +kernel
theorem dX7_step_251 : decode cX7_step 251 = .ok (.dup2, 1) := by decide +kernel
theorem dX7_step_252 : decode cX7_step 252 = .ok (.iaload, 1) := by decide +kernel
theorem dX7_step_253 : decode cX7_step 253 = .ok (.iconst 1, 1) := by decide +kernel
theorem dX7_step_254 : decode cX7_step 254 = .ok (.iadd, 1) := by decide +kernel
theorem dX7_step_255 : decode cX7_step 255 = .ok (.iastore, 1) := by decide +kernel
theorem dX7_step_256 : decode cX7_step 256 = .ok (.aload_n 0, 1) := by decide +kernel
theorem dX7_step_257 : decode cX7_step 257 = .ok (.getfield 54, 3) := by decide +kernel
theorem dX7_step_260 : decode cX7_step 260 = .ok (.iconst 3, 1) := by decide +kernel
theorem dX7_step_261 : decode cX7_step 261 = .ok (.iload 5, 2) := by decide +kernel
theorem dX7_step_263 : decode cX7_step 263 = .ok (.iastore, 1) := by decide +kernel
theorem dX7_step_264 : decode cX7_step 264 = .ok (.iconst 0, 1) := by decide +kernel
theorem dX7_step_265 : decode cX7_step 265 = .ok (.istore 6, 2) := by decide +kernel
theorem dX7_step_267 : decode cX7_step 267 = .ok (.iload 6, 2) := by decide +kernel
theorem dX7_step_269 : decode cX7_step 269 = .ok (.aload_n 0, 1) := by decide +kernel
theorem dX7_step_270 : decode cX7_step 270 = .ok (.getfield 70, 3) := by decide +kernel
theorem dX7_step_273 : decode cX7_step 273 = .ok (.if_icmp .ge 45, 3) := by decide +kernel
theorem dX7_step_276 : decode cX7_step 276 = .ok (.aload_n 0, 1) := by decide +kernel
theorem dX7_step_277 : decode cX7_step 277 = .ok (.getfield 42, 3) := by decide +kernel
theorem dX7_step_280 : decode cX7_step 280 = .ok (.iload 6, 2) := by decide +kernel
theorem dX7_step_282 : decode cX7_step 282 = .ok (.aaload, 1) := by decide +kernel
theorem dX7_step_283 : decode cX7_step 283 = .ok (.iconst 0, 1) := by decide +kernel
theorem dX7_step_284 : decode cX7_step 284 = .ok (.iaload, 1) := by decide +kernel
theorem dX7_step_285 : decode cX7_step 285 = .ok (.iload_n 3, 1) := by decide +kernel
theorem dX7_step_286 : decode cX7_step 286 = .ok (.if_icmp .ne 26, 3) := by decide +kernel
theorem dX7_step_289 : decode cX7_step 289 = .ok (.aload_n 0, 1) := by decide +kernel
theorem dX7_step_290 : decode cX7_step 290 = .ok (.iload_n 1, 1) := by decide +kernel
theorem dX7_step_291 : decode cX7_step 291 = .ok (.iload_n 2, 1) := by decide +kernel
theorem dX7_step_292 : decode cX7_step 292 = .ok (.iload 6, 2) := by decide +kernel
theorem dX7_step_294 : decode cX7_step 294 = .ok (.invokevirtual 271, 3) := by decide +kernel
theorem dX7_step_297 : decode cX7_step 297 = .ok (.iconst 1, 1) := by decide +kernel
theorem dX7_step_298 : decode cX7_step 298 = .ok (.if_icmp .ne 14, 3) := by decide +kernel
theorem dX7_step_301 : decode cX7_step 301 = .ok (.aload_n 0, 1) := by decide +kernel
theorem dX7_step_302 : decode cX7_step 302 = .ok (.getfield 42, 3) := by decide +kernel
theorem dX7_step_305 : decode cX7_step 305 = .ok (.iload 6, 2) := by decide +kernel
theorem dX7_step_307 : decode cX7_step 307 = .ok (.aaload, 1) := by decide +kernel
theorem dX7_step_308 : decode cX7_step 308 = .ok (.bipush 7, 2) := by decide +kernel
theorem dX7_step_310 : decode cX7_step 310 = .ok (.iconst 1, 1) := by decide +kernel
theorem dX7_step_311 : decode cX7_step 311 = .ok (.iastore, 1) := by decide +kernel
theorem dX7_step_312 : decode cX7_step 312 = .ok (.iinc 6 1, 3) := by decide +kernel
theorem dX7_step_315 : decode cX7_step 315 = .ok (.goto (-48), 3) := by decide +kernel
theorem dX7_step_318 : decode cX7_step 318 = .ok (.iload_n 3, 1) := by decide +kernel
theorem dX7_step_319 : decode cX7_step 319 = .ok (.ireturn, 1) := by decide +kernel
theorem dX7_step_320 : decode cX7_step 320 = .ok (.iinc 3 1, 3) := by decide +kernel
theorem dX7_step_323 : decode cX7_step 323 = .ok (.goto (-263), 3) := by decide +kernel
theorem dX7_step_326 : decode cX7_step 326 = .ok (.aload_n 0, 1) := by decide +kernel
theorem dX7_step_327 : decode cX7_step 327 = .ok (.bipush (-5), 2) := by decide +kernel
theorem dX7_step_329 : decode cX7_step 329 = .ok (.invokevirtual 89, 3) := by decide +kernel
theorem dX7_step_332 : decode cX7_step 332 = .ok (.ireturn, 1) := by decide +kernel
theorem dX7_told__0 : decode cX7_told_ 0 = .ok (.iload 6, 2) := by decide +kernel
theorem dX7_told__2 : decode cX7_told_ 2 = .ok (.i2l, 1) := by decide +kernel
theorem dX7_told__3 : decode cX7_told_ 3 = .ok (.lconst 0, 1) := by decide +kernel
theorem dX7_told__4 : decode cX7_told_ 4 = .ok (.ldc2_w 319, 3) := by decide +kernel
theorem dX7_told__7 : decode cX7_told_ 7 = .ok (.invokestatic 62, 3) := by decide +kernel
theorem dX7_told__10 : decode cX7_told_ 10 = .ok (.ifCond .ne 10, 3) := by decide +kernel
theorem dX7_told__13 : decode cX7_told_ 13 = .ok (.aload_n 0, 1) := by decide +kernel
theorem dX7_told__14 : decode cX7_told_ 14 = .ok (.bipush (-2), 2) := by decide +kernel
theorem dX7_told__16 : decode cX7_told_ 16 = .ok (.invokevirtual 89, 3) := by decide +kernel
theorem dX7_told__19 : decode cX7_told_ 19 = .ok (.ireturn, 1) := by decide +kernel
theorem dX7_told__20 : decode cX7_told_ 20 = .ok (.aload_n 0, 1) := by decide +kernel
theorem dX7_told__21 : decode cX7_told_ 21 = .ok (.iload_n 1, 1) := by decide +kernel
theorem dX7_told__22 : decode cX7_told_ 22 = .ok (.iload_n 2, 1) := by decide +kernel
theorem dX7_told__23 : decode cX7_told_ 23 = .ok (.iload_n 3, 1) := by decide +kernel
theorem dX7_told__24 : decode cX7_told_ 24 = .ok (.iload 4, 2) := by decide +kernel
theorem dX7_told__26 : decode cX7_told_ 26 = .ok (.iload 5, 2) := by decide +kernel
theorem dX7_told__28 : decode cX7_told_ 28 = .ok (.invokevirtual 313, 3) := by decide +kernel
theorem dX7_told__31 : decode cX7_told_ 31 = .ok (.istore 7, 2) := by decide +kernel
theorem dX7_told__33 : decode cX7_told_ 33 = .ok (.iload 7, 2) := by decide +kernel
theorem dX7_told__35 : decode cX7_told_ 35 = .ok (.ifCond .eq 6, 3) := by decide +kernel
theorem dX7_told__38 : decode cX7_told_ 38 = .ok (.iload 7, 2) := by decide +kernel
theorem dX7_told__40 : decode cX7_told_ 40 = .ok (.ireturn, 1) := by decide +kernel
theorem dX7_told__41 : decode cX7_told_ 41 = .ok (.aload_n 0, 1) := by decide +kernel
theorem dX7_told__42 : decode cX7_told_ 42 = .ok (.iload_n 1, 1) := by decide +kernel
theorem dX7_told__43 : decode cX7_told_ 43 = .ok (.iload_n 2, 1) := by decide +kernel
theorem dX7_told__44 : decode cX7_told_ 44 = .ok (.iload_n 3, 1) := by decide +kernel
theorem dX7_told__45 : decode cX7_told_ 45 = .ok (.iload 4, 2) := by decide +kernel
theorem dX7_told__47 : decode cX7_told_ 47 = .ok (.iload 5, 2) := by decide +kernel
theorem dX7_told__49 : decode cX7_told_ 49 = .ok (.invokevirtual 316, 3) := by decide +kernel
theorem dX7_told__52 : decode cX7_told_ 52 = .ok (.iconst (-1), 1) := by decide +kernel
theorem dX7_told__53 : decode cX7_told_ 53 = .ok (.if_icmp .eq 10, 3) := by decide +kernel
theorem dX7_told__56 : decode cX7_told_ 56 = .ok (.aload_n 0, 1) := by decide +kernel
theorem dX7_told__57 : decode cX7_told_ 57 = .ok (.bipush (-5), 2) := by decide +kernel
theorem dX7_told__59 : decode cX7_told_ 59 = .ok (.invokevirtual 89, 3) := by decide +kernel
theorem dX7_told__62 : decode cX7_told_ 62 = .ok (.ireturn, 1) := by decide +kernel
theorem dX7_told__63 : decode cX7_told_ 63 = .ok (.iconst 0, 1) := by decide +kernel
theorem dX7_told__64 : decode cX7_told_ 64 = .ok (.istore 8, 2) := by decide +kernel
theorem dX7_told__66 : decode cX7_told_ 66 = .ok (.iconst 0, 1) := by decide +kernel
theorem dX7_told__67 : decode cX7_told_ 67 = .ok (.istore 9, 2) := by decide +kernel
theorem dX7_told__69 : decode cX7_told_ 69 = .ok (.iconst 0, 1) := by decide +kernel
theorem dX7_told__70 : decode cX7_told_ 70 = .ok (.istore 10, 2) := by decide +kernel
theorem dX7_told__72 : decode cX7_told_ 72 = .ok (.iload 10, 2) := by decide +kernel
theorem dX7_told__74 : decode cX7_told_ 74 = .ok (.iload 5, 2) := by decide +kernel
theorem dX7_told__76 : decode cX7_told_ 76 = .ok (.if_icmp .ge 68, 3) := by decide +kernel
theorem dX7_told__79 : decode cX7_told_ 79 = .ok (.aload_n 0, 1) := by decide +kernel
theorem dX7_told__80 : decode cX7_told_ 80 = .ok (.getfield 21, 3) := by decide +kernel
theorem dX7_told__83 : decode cX7_told_ 83 = .ok (.iload 4, 2) := by decide +kernel
theorem dX7_told__85 : decode cX7_told_ 85 = .ok (.aaload, 1) := by decide +kernel
theorem dX7_told__86 : decode cX7_told_ 86 = .ok (.iload 10, 2) := by decide +kernel
theorem dX7_told__88 : decode cX7_told_ 88 = .ok (.laload, 1) := by decide +kernel
theorem dX7_told__89 : decode cX7_told_ 89 = .ok (.l2i, 1) := by decide +kernel
theorem dX7_told__90 : decode cX7_told_ 90 = .ok (.istore 11, 2) := by decide +kernel
theorem dX7_told__92 : decode cX7_told_ 92 = .ok (.iload 8, 2) := by decide +kernel
theorem dX7_told__94 : decode cX7_told_ 94 = .ok (.iload 6, 2) := by decide +kernel
theorem dX7_told__96 : decode cX7_told_ 96 = .ok (.ifCond .ne 15, 3) := by decide +kernel
theorem dX7_told__99 : decode cX7_told_ 99 = .ok (.aload_n 0, 1) := by decide +kernel
theorem dX7_told__100 : decode cX7_told_ 100 = .ok (.iload_n 1, 1) := by decide +kernel
theorem dX7_told__101 : decode cX7_told_ 101 = .ok (.iload_n 2, 1) := by decide +kernel
theorem dX7_told__102 : decode cX7_told_ 102 = .ok (.iload 11, 2) := by decide +kernel
theorem dX7_told__104 : decode cX7_told_ 104 = .ok (.iconst 1, 1) := by decide +kernel
theorem dX7_told__105 : decode cX7_told_ 105 = .ok (.invokevirtual 285, 3) := by decide +kernel
theorem dX7_told__108 : decode cX7_told_ 108 = .ok (.goto 11, 3) := by decide +kernel
theorem dX7_told__111 : decode cX7_told_ 111 = .ok (.aload_n 0, 1) := by decide +kernel
theorem dX7_told__112 : decode cX7_told_ 112 = .ok (.iload_n 1, 1) := by decide +kernel
theorem dX7_told__113 : decode cX7_told_ 113 = .ok (.iload_n 2, 1) := by decide +kernel
theorem dX7_told__114 : decode cX7_told_ 114 = .ok (.iload 11, 2) := by decide +kernel
theorem dX7_told__116 : decode cX7_told_ 116 = .ok (.invokevirtual 289, 3) := by decide +kernel
theorem dX7_told__119 : decode cX7_told_ 119 = .ok (.iadd, 1) := by decide +kernel
theorem dX7_told__120 : decode cX7_told_ 120 = .ok (.istore 8, 2) := by decide +kernel
theorem dX7_told__122 : decode cX7_told_ 122 = .ok (.iload 9, 2) := by decide +kernel
theorem dX7_told__124 : decode cX7_told_ 124 = .ok (.iconst 1, 1) := by decide +kernel
theorem dX7_told__125 : decode cX7_told_ 125 = .ok (.aload_n 0, 1) := by decide +kernel
theorem dX7_told__126 : decode cX7_told_ 126 = .ok (.getfield 39, 3) := by decide +kernel
theorem dX7_told__129 : decode cX7_told_ 129 = .ok (.iload 11, 2) := by decide +kernel
theorem dX7_told__131 : decode cX7_told_ 131 = .ok (.aaload, 1) := by decide +kernel
theorem dX7_told__132 : decode cX7_told_ 132 = .ok (.iconst 5, 1) := by decide +kernel
theorem dX7_told__133 : decode cX7_told_ 133 = .ok (.iaload, 1) := by decide +kernel
theorem dX7_told__134 : decode cX7_told_ 134 = .ok (.ishl, 1) := by decide +kernel
theorem dX7_told__135 : decode cX7_told_ 135 = .ok (.ior, 1) := by decide +kernel
theorem dX7_told__136 : decode cX7_told_ 136 = .ok (.istore 9, 2) := by decide +kernel
theorem dX7_told__138 : decode cX7_told_ 138 = .ok (.iinc 10 1, 3) := by decide +kernel
theorem dX7_told__141 : decode cX7_told_ 141 = .ok (.goto (-69), 3) := by decide +kernel
theorem dX7_told__144 : decode cX7_told_ 144 = .ok (.iload 6, 2) := by decide +kernel
theorem dX7_told__146 : decode cX7_told_ 146 = .ok (.iconst 3, 1) := by decide +kernel
theorem dX7_told__147 : decode cX7_told_ 147 = .ok (.if_icmp .ne 8, 3) := by decide +kernel
theorem dX7_told__150 : decode cX7_told_ 150 = .ok (.aload_n 0, 1) := by decide +kernel
theorem dX7_told__151 : decode cX7_told_ 151 = .ok (.getfield 310, 3) := by decide +kernel
theorem dX7_told__154 : decode cX7_told_ 154 = .ok (.ireturn, 1) := by decide +kernel
theorem dX7_told__155 : decode cX7_told_ 155 = .ok (.iload 6, 2) := by decide +kernel
theorem dX7_told__157 : decode cX7_told_ 157 = .ok (.iconst 2, 1) := by decide +kernel
theorem dX7_told__158 : decode cX7_told_ 158 = .ok (.if_icmp .ne 11, 3) := by decide +kernel
theorem dX7_told__161 : decode cX7_told_ 161 = .ok (.iload 9, 2) := by decide +kernel
theorem dX7_told__163 : decode cX7_told_ 163 = .ok (.invokestatic 321, 3) := by decide +kernel
theorem dX7_told__166 : decode cX7_told_ 166 = .ok (.goto 5, 3) := by decide +kernel
theorem dX7_told__169 : decode cX7_told_ 169 = .ok (.iload 8, 2) := by decide +kernel
theorem dX7_told__171 : decode cX7_told_ 171 = .ok (.ireturn, 1) := by decide +kernel
theorem dX7_under_0 : decode cX7_under 0 = .ok (.iload_n 1, 1) := by decide +kernel
theorem dX7_under_1 : decode cX7_under 1 = .ok (.i2l, 1) := by decide +kernel
theorem dX7_under_2 : decode cX7_under 2 = .ok (.lconst 0, 1) := by decide +kernel
theorem dX7_under_3 : decode cX7_under 3 = .ok (.ldc2_w 85, 3) := by decide +kernel
theorem dX7_under_6 : decode cX7_under 6 = .ok (.invokestatic 62, 3) := by decide +kernel
theorem dX7_under_9 : decode cX7_under 9 = .ok (.ifCond .ne 10, 3) := by decide +kernel
theorem dX7_under_12 : decode cX7_under 12 = .ok (.aload_n 0, 1) := by decide +kernel
theorem dX7_under_13 : decode cX7_under 13 = .ok (.bipush (-2), 2) := by decide +kernel
theorem dX7_under_15 : decode cX7_under 15 = .ok (.invokevirtual 89, 3) := by decide +kernel
theorem dX7_under_18 : decode cX7_under 18 = .ok (.ireturn, 1) := by decide +kernel
theorem dX7_under_19 : decode cX7_under 19 = .ok (.aload_n 0, 1) := by decide +kernel
theorem dX7_under_20 : decode cX7_under 20 = .ok (.getfield 54, 3) := by decide +kernel
theorem dX7_under_23 : decode cX7_under 23 = .ok (.iconst 0, 1) := by decide +kernel
theorem dX7_under_24 : decode cX7_under 24 = .ok (.iaload, 1) := by decide +kernel
theorem dX7_under_25 : decode cX7_under 25 = .ok (.ifCond .ne 10, 3) := by decide +kernel
theorem dX7_under_28 : decode cX7_under 28 = .ok (.aload_n 0, 1) := by decide +kernel
theorem dX7_under_29 : decode cX7_under 29 = .ok (.bipush (-5), 2) := by decide +kernel
theorem dX7_under_31 : decode cX7_under 31 = .ok (.invokevirtual 89, 3) := by decide +kernel
theorem dX7_under_34 : decode cX7_under 34 = .ok (.ireturn, 1) := by decide +kernel
theorem dX7_under_35 : decode cX7_under 35 = .ok (.iload_n 1, 1) := by decide +kernel
theorem dX7_under_36 : decode cX7_under 36 = .ok (.tableswitch 58 0 3 #[32, 39, 46, 51], 32) := by decide +kernel
theorem dX7_under_68 : decode cX7_under 68 = .ok (.aload_n 0, 1) := by decide +kernel
theorem dX7_under_69 : decode cX7_under 69 = .ok (.getfield 54, 3) := by decide +kernel
theorem dX7_under_72 : decode cX7_under 72 = .ok (.iconst 3, 1) := by decide +kernel
theorem dX7_under_73 : decode cX7_under 73 = .ok (.iaload, 1) := by decide +kernel
theorem dX7_under_74 : decode cX7_under 74 = .ok (.ireturn, 1) := by decide +kernel
theorem dX7_under_75 : decode cX7_under 75 = .ok (.aload_n 0, 1) := by decide +kernel
theorem dX7_under_76 : decode cX7_under 76 = .ok (.getfield 54, 3) := by decide +kernel
theorem dX7_under_79 : decode cX7_under 79 = .ok (.iconst 4, 1) := by decide +kernel
theorem dX7_under_80 : decode cX7_under 80 = .ok (.iaload, 1) := by decide +kernel
theorem dX7_under_81 : decode cX7_under 81 = .ok (.ireturn, 1) := by decide +kernel
theorem dX7_under_82 : decode cX7_under 82 = .ok (.aload_n 0, 1) := by decide +kernel
theorem dX7_under_83 : decode cX7_under 83 = .ok (.getfield 324, 3) := by decide +kernel
theorem dX7_under_86 : decode cX7_under 86 = .ok (.ireturn, 1) := by decide +kernel
theorem dX7_under_87 : decode cX7_under 87 = .ok (.aload_n 0, 1) := by decide +kernel
theorem dX7_under_88 : decode cX7_under 88 = .ok (.getfield 54, 3) := by decide +kernel
theorem dX7_under_91 : decode cX7_under 91 = .ok (.iconst 5, 1) := by decide +kernel
theorem dX7_under_92 : decode cX7_under 92 = .ok (.iaload, 1) := by decide +kernel
theorem dX7_under_93 : decode cX7_under 93 = .ok (.ireturn, 1) := by decide +kernel
theorem dX7_under_94 : decode cX7_under 94 = .ok (.aload_n 0, 1) := by decide +kernel
theorem dX7_under_95 : decode cX7_under 95 = .ok (.getfield 54, 3) := by decide +kernel
theorem dX7_under_98 : decode cX7_under 98 = .ok (.bipush 6, 2) := by decide +kernel
theorem dX7_under_100 : decode cX7_under 100 = .ok (.iaload, 1) := by decide +kernel
theorem dX7_under_101 : decode cX7_under 101 = .ok (.ireturn, 1) := by decide +kernel

