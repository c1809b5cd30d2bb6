theorem q_46 : Cond.selects RX7 yX7_perhaps yX7_perhaps ∈ oh_t := oh_of (i := 46) (by decide +kernel) rfl
theorem q_1239 : Cond.methodLink RX7 223 yX7_perhaps ∈ oh_t := oh_of (i := 1239) (by decide +kernel) rfl
theorem q_1241 : Cond.instanceMethod yX7_perhaps ∈ oh_t := oh_of (i := 1241) (by decide +kernel) rfl
theorem q_1242 : Cond.code yX7_perhaps cX7_perhaps 6 (some .boolean) ∈ oh_t := oh_of (i := 1242) (by decide +kernel) rfl
theorem pdVX7_perhaps : yX7_perhaps.cls = RX7 ∧ yX7_perhaps.cls ≠ "java/lang/invoke/MethodHandle" ∧ yX7_perhaps.cls ≠ "java/lang/invoke/VarHandle" ∧ (parseMethodDescriptor yX7_perhaps.desc).map (fun d => d.parameters.length) = some 5 := by decide +kernel
theorem dX7_bridgeTold_0 : decode cX7_bridgeTold 0 = .ok (.aload_n 0, 1) := by decide +kernel
theorem dX7_bridgeTold_1 : decode cX7_bridgeTold 1 = .ok (.invokevirtual 131, 3) := by decide +kernel
theorem dX7_bridgeTold_4 : decode cX7_bridgeTold 4 = .ok (.aload_n 0, 1) := by decide +kernel
theorem dX7_bridgeTold_5 : decode cX7_bridgeTold 5 = .ok (.invokevirtual 185, 3) := by decide +kernel
theorem dX7_bridgeTold_8 : decode cX7_bridgeTold 8 = .ok (.aload_n 0, 1) := by decide +kernel
theorem dX7_bridgeTold_9 : decode cX7_bridgeTold 9 = .ok (.aload_n 1, 1) := by decide +kernel
theorem dX7_bridgeTold_10 : decode cX7_bridgeTold 10 = .ok (.iconst 0, 1) := by decide +kernel
theorem dX7_bridgeTold_11 : decode cX7_bridgeTold 11 = .ok (.iconst 0, 1) := by decide +kernel
theorem dX7_bridgeTold_12 : decode cX7_bridgeTold 12 = .ok (.aload_n 0, 1) := by decide +kernel
theorem dX7_bridgeTold_13 : decode cX7_bridgeTold 13 = .ok (.getfield 66, 3) := by decide +kernel
theorem dX7_bridgeTold_16 : decode cX7_bridgeTold 16 = .ok (.iconst 1, 1) := by decide +kernel
theorem dX7_bridgeTold_17 : decode cX7_bridgeTold 17 = .ok (.isub, 1) := by decide +kernel
theorem dX7_bridgeTold_18 : decode cX7_bridgeTold 18 = .ok (.invokevirtual 192, 3) := by decide +kernel
theorem dX7_bridgeTold_21 : decode cX7_bridgeTold 21 = .ok (.ifCond .eq 30, 3) := by decide +kernel
theorem dX7_bridgeTold_24 : decode cX7_bridgeTold 24 = .ok (.aload_n 0, 1) := by decide +kernel
theorem dX7_bridgeTold_25 : decode cX7_bridgeTold 25 = .ok (.ldc 230, 2) := by decide +kernel
theorem dX7_bridgeTold_27 : decode cX7_bridgeTold 27 = .ok (.aload_n 1, 1) := by decide +kernel
theorem dX7_bridgeTold_28 : decode cX7_bridgeTold 28 = .ok (.iconst 1, 1) := by decide +kernel
theorem dX7_bridgeTold_29 : decode cX7_bridgeTold 29 = .ok (.iconst 0, 1) := by decide +kernel
theorem dX7_bridgeTold_30 : decode cX7_bridgeTold 30 = .ok (.iconst 5, 1) := by decide +kernel
theorem dX7_bridgeTold_31 : decode cX7_bridgeTold 31 = .ok (.invokevirtual 196, 3) := by decide +kernel
theorem dX7_bridgeTold_34 : decode cX7_bridgeTold 34 = .ok (.ifCond .eq 17, 3) := by decide +kernel
theorem dX7_bridgeTold_37 : decode cX7_bridgeTold 37 = .ok (.aload_n 0, 1) := by decide +kernel
theorem dX7_bridgeTold_38 : decode cX7_bridgeTold 38 = .ok (.ldc 232, 2) := by decide +kernel
theorem dX7_bridgeTold_40 : decode cX7_bridgeTold 40 = .ok (.aload_n 1, 1) := by decide +kernel
theorem dX7_bridgeTold_41 : decode cX7_bridgeTold 41 = .ok (.iconst 2, 1) := by decide +kernel
theorem dX7_bridgeTold_42 : decode cX7_bridgeTold 42 = .ok (.iconst 0, 1) := by decide +kernel
theorem dX7_bridgeTold_43 : decode cX7_bridgeTold 43 = .ok (.bipush 60, 2) := by decide +kernel
theorem dX7_bridgeTold_45 : decode cX7_bridgeTold 45 = .ok (.invokevirtual 196, 3) := by decide +kernel
theorem dX7_bridgeTold_48 : decode cX7_bridgeTold 48 = .ok (.ifCond .ne 5, 3) := by decide +kernel
theorem dX7_bridgeTold_51 : decode cX7_bridgeTold 51 = .ok (.iconst 0, 1) := by decide +kernel
theorem dX7_bridgeTold_52 : decode cX7_bridgeTold 52 = .ok (.ireturn, 1) := by decide +kernel
theorem dX7_bridgeTold_53 : decode cX7_bridgeTold 53 = .ok (.aload_n 0, 1) := by decide +kernel
theorem dX7_bridgeTold_54 : decode cX7_bridgeTold 54 = .ok (.ldc 234, 2) := by decide +kernel
theorem dX7_bridgeTold_56 : decode cX7_bridgeTold 56 = .ok (.aload_n 1, 1) := by decide +kernel
theorem dX7_bridgeTold_57 : decode cX7_bridgeTold 57 = .ok (.iconst 3, 1) := by decide +kernel
theorem dX7_bridgeTold_58 : decode cX7_bridgeTold 58 = .ok (.iconst 1, 1) := by decide +kernel
theorem dX7_bridgeTold_59 : decode cX7_bridgeTold 59 = .ok (.bipush 99, 2) := by decide +kernel
theorem dX7_bridgeTold_61 : decode cX7_bridgeTold 61 = .ok (.invokevirtual 196, 3) := by decide +kernel
theorem dX7_bridgeTold_64 : decode cX7_bridgeTold 64 = .ok (.ifCond .eq 18, 3) := by decide +kernel
theorem dX7_bridgeTold_67 : decode cX7_bridgeTold 67 = .ok (.aload_n 0, 1) := by decide +kernel
theorem dX7_bridgeTold_68 : decode cX7_bridgeTold 68 = .ok (.ldc 236, 2) := by decide +kernel
theorem dX7_bridgeTold_70 : decode cX7_bridgeTold 70 = .ok (.aload_n 1, 1) := by decide +kernel
theorem dX7_bridgeTold_71 : decode cX7_bridgeTold 71 = .ok (.iconst 4, 1) := by decide +kernel
theorem dX7_bridgeTold_72 : decode cX7_bridgeTold 72 = .ok (.iconst 1, 1) := by decide +kernel
theorem dX7_bridgeTold_73 : decode cX7_bridgeTold 73 = .ok (.sipush 999, 3) := by decide +kernel
theorem dX7_bridgeTold_76 : decode cX7_bridgeTold 76 = .ok (.invokevirtual 196, 3) := by decide +kernel
theorem dX7_bridgeTold_79 : decode cX7_bridgeTold 79 = .ok (.ifCond .ne 5, 3) := by decide +kernel
theorem dX7_bridgeTold_82 : decode cX7_bridgeTold 82 = .ok (.iconst 0, 1) := by decide +kernel
theorem dX7_bridgeTold_83 : decode cX7_bridgeTold 83 = .ok (.ireturn, 1) := by decide +kernel
theorem dX7_bridgeTold_84 : decode cX7_bridgeTold 84 = .ok (.aload_n 0, 1) := by decide +kernel
theorem dX7_bridgeTold_85 : decode cX7_bridgeTold 85 = .ok (.ldc 238, 2) := by decide +kernel
theorem dX7_bridgeTold_87 : decode cX7_bridgeTold 87 = .ok (.invokevirtual 188, 3) := by decide +kernel
theorem dX7_bridgeTold_90 : decode cX7_bridgeTold 90 = .ok (.ifCond .eq 34, 3) := by decide +kernel
theorem dX7_bridgeTold_93 : decode cX7_bridgeTold 93 = .ok (.aload_n 0, 1) := by decide +kernel
theorem dX7_bridgeTold_94 : decode cX7_bridgeTold 94 = .ok (.ldc 238, 2) := by decide +kernel
theorem dX7_bridgeTold_96 : decode cX7_bridgeTold 96 = .ok (.aload_n 1, 1) := by decide +kernel
theorem dX7_bridgeTold_97 : decode cX7_bridgeTold 97 = .ok (.iconst 5, 1) := by decide +kernel
theorem dX7_bridgeTold_98 : decode cX7_bridgeTold 98 = .ok (.iconst 0, 1) := by decide +kernel
theorem dX7_bridgeTold_99 : decode cX7_bridgeTold 99 = .ok (.sipush 999, 3) := by decide +kernel
theorem dX7_bridgeTold_102 : decode cX7_bridgeTold 102 = .ok (.invokevirtual 196, 3) := by decide +kernel
theorem dX7_bridgeTold_105 : decode cX7_bridgeTold 105 = .ok (.ifCond .eq 17, 3) := by decide +kernel
theorem dX7_bridgeTold_108 : decode cX7_bridgeTold 108 = .ok (.aload_n 0, 1) := by decide +kernel
theorem dX7_bridgeTold_109 : decode cX7_bridgeTold 109 = .ok (.aload_n 1, 1) := by decide +kernel
theorem dX7_bridgeTold_110 : decode cX7_bridgeTold 110 = .ok (.bipush 6, 2) := by decide +kernel
theorem dX7_bridgeTold_112 : decode cX7_bridgeTold 112 = .ok (.iconst 0, 1) := by decide +kernel
theorem dX7_bridgeTold_113 : decode cX7_bridgeTold 113 = .ok (.sipush 999, 3) := by decide +kernel
theorem dX7_bridgeTold_116 : decode cX7_bridgeTold 116 = .ok (.invokevirtual 192, 3) := by decide +kernel
theorem dX7_bridgeTold_119 : decode cX7_bridgeTold 119 = .ok (.ifCond .ne 5, 3) := by decide +kernel
theorem dX7_bridgeTold_122 : decode cX7_bridgeTold 122 = .ok (.iconst 0, 1) := by decide +kernel
theorem dX7_bridgeTold_123 : decode cX7_bridgeTold 123 = .ok (.ireturn, 1) := by decide +kernel
theorem dX7_bridgeTold_124 : decode cX7_bridgeTold 124 = .ok (.aload_n 0, 1) := by decide +kernel
theorem dX7_bridgeTold_125 : decode cX7_bridgeTold 125 = .ok (.dup, 1) := by decide +kernel
theorem dX7_bridgeTold_126 : decode cX7_bridgeTold 126 = .ok (.getfield 70, 3) := by decide +kernel
theorem dX7_bridgeTold_129 : decode cX7_bridgeTold 129 = .ok (.iconst 1, 1) := by decide +kernel
theorem dX7_bridgeTold_130 : decode cX7_bridgeTold 130 = .ok (.iadd, 1) := by decide +kernel
theorem dX7_bridgeTold_131 : decode cX7_bridgeTold 131 = .ok (.putfield 70, 3) := by decide +kernel
theorem dX7_bridgeTold_134 : decode cX7_bridgeTold 134 = .ok (.iconst 1, 1) := by decide +kernel
theorem dX7_bridgeTold_135 : decode cX7_bridgeTold 135 = .ok (.ireturn, 1) := by decide +kernel
theorem dX7_roadTold_0 : decode cX7_roadTold 0 = .ok (.aload_n 0, 1) := by decide +kernel
theorem dX7_roadTold_1 : decode cX7_roadTold 1 = .ok (.iconst 0, 1) := by decide +kernel
theorem dX7_roadTold_2 : decode cX7_roadTold 2 = .ok (.iconst 0, 1) := by decide +kernel
theorem dX7_roadTold_3 : decode cX7_roadTold 3 = .ok (.invokevirtual 122, 3) := by decide +kernel
theorem dX7_roadTold_6 : decode cX7_roadTold 6 = .ok (.aload_n 0, 1) := by decide +kernel
theorem dX7_roadTold_7 : decode cX7_roadTold 7 = .ok (.invokevirtual 185, 3) := by decide +kernel
theorem dX7_roadTold_10 : decode cX7_roadTold 10 = .ok (.aload_n 0, 1) := by decide +kernel
theorem dX7_roadTold_11 : decode cX7_roadTold 11 = .ok (.aload_n 1, 1) := by decide +kernel
theorem dX7_roadTold_12 : decode cX7_roadTold 12 = .ok (.iconst 0, 1) := by decide +kernel
theorem dX7_roadTold_13 : decode cX7_roadTold 13 = .ok (.iconst 0, 1) := by decide +kernel
theorem dX7_roadTold_14 : decode cX7_roadTold 14 = .ok (.bipush 15, 2) := by decide +kernel
theorem dX7_roadTold_16 : decode cX7_roadTold 16 = .ok (.invokevirtual 192, 3) := by decide +kernel
theorem dX7_roadTold_19 : decode cX7_roadTold 19 = .ok (.ifCond .ne 5, 3) := by decide +kernel
theorem dX7_roadTold_22 : decode cX7_roadTold 22 = .ok (.iconst 0, 1) := by decide +kernel
theorem dX7_roadTold_23 : decode cX7_roadTold 23 = .ok (.ireturn, 1) := by decide +kernel
theorem dX7_roadTold_24 : decode cX7_roadTold 24 = .ok (.aload_n 0, 1) := by decide +kernel
theorem dX7_roadTold_25 : decode cX7_roadTold 25 = .ok (.getfield 153, 3) := by decide +kernel
theorem dX7_roadTold_28 : decode cX7_roadTold 28 = .ok (.iconst 2, 1) := by decide +kernel
theorem dX7_roadTold_29 : decode cX7_roadTold 29 = .ok (.if_icmp .ne 20, 3) := by decide +kernel
theorem dX7_roadTold_32 : decode cX7_roadTold 32 = .ok (.aload_n 0, 1) := by decide +kernel
theorem dX7_roadTold_33 : decode cX7_roadTold 33 = .ok (.getfield 149, 3) := by decide +kernel
theorem dX7_roadTold_36 : decode cX7_roadTold 36 = .ok (.aload_n 1, 1) := by decide +kernel
theorem dX7_roadTold_37 : decode cX7_roadTold 37 = .ok (.iconst 0, 1) := by decide +kernel
theorem dX7_roadTold_38 : decode cX7_roadTold 38 = .ok (.iaload, 1) := by decide +kernel
theorem dX7_roadTold_39 : decode cX7_roadTold 39 = .ok (.i2l, 1) := by decide +kernel
theorem dX7_roadTold_40 : decode cX7_roadTold 40 = .ok (.lcmp, 1) := by decide +kernel
theorem dX7_roadTold_41 : decode cX7_roadTold 41 = .ok (.ifCond .ne 8, 3) := by decide +kernel
theorem dX7_roadTold_44 : decode cX7_roadTold 44 = .ok (.aload_n 0, 1) := by decide +kernel
theorem dX7_roadTold_45 : decode cX7_roadTold 45 = .ok (.invokevirtual 181, 3) := by decide +kernel
theorem dX7_roadTold_48 : decode cX7_roadTold 48 = .ok (.ireturn, 1) := by decide +kernel
theorem dX7_roadTold_49 : decode cX7_roadTold 49 = .ok (.aload_n 0, 1) := by decide +kernel
theorem dX7_roadTold_50 : decode cX7_roadTold 50 = .ok (.aload_n 1, 1) := by decide +kernel
theorem dX7_roadTold_51 : decode cX7_roadTold 51 = .ok (.iconst 1, 1) := by decide +kernel
theorem dX7_roadTold_52 : decode cX7_roadTold 52 = .ok (.iconst 0, 1) := by decide +kernel
theorem dX7_roadTold_53 : decode cX7_roadTold 53 = .ok (.bipush 15, 2) := by decide +kernel
theorem dX7_roadTold_55 : decode cX7_roadTold 55 = .ok (.invokevirtual 192, 3) := by decide +kernel
theorem dX7_roadTold_58 : decode cX7_roadTold 58 = .ok (.ifCond .eq 17, 3) := by decide +kernel
theorem dX7_roadTold_61 : decode cX7_roadTold 61 = .ok (.aload_n 0, 1) := by decide +kernel
theorem dX7_roadTold_62 : decode cX7_roadTold 62 = .ok (.ldc 219, 2) := by decide +kernel
theorem dX7_roadTold_64 : decode cX7_roadTold 64 = .ok (.aload_n 1, 1) := by decide +kernel
theorem dX7_roadTold_65 : decode cX7_roadTold 65 = .ok (.iconst 2, 1) := by decide +kernel
theorem dX7_roadTold_66 : decode cX7_roadTold 66 = .ok (.iconst 1, 1) := by decide +kernel
theorem dX7_roadTold_67 : decode cX7_roadTold 67 = .ok (.bipush 60, 2) := by decide +kernel
theorem dX7_roadTold_69 : decode cX7_roadTold 69 = .ok (.invokevirtual 196, 3) := by decide +kernel
theorem dX7_roadTold_72 : decode cX7_roadTold 72 = .ok (.ifCond .ne 5, 3) := by decide +kernel
theorem dX7_roadTold_75 : decode cX7_roadTold 75 = .ok (.iconst 0, 1) := by decide +kernel
theorem dX7_roadTold_76 : decode cX7_roadTold 76 = .ok (.ireturn, 1) := by decide +kernel
theorem dX7_roadTold_77 : decode cX7_roadTold 77 = .ok (.aload_n 0, 1) := by decide +kernel
theorem dX7_roadTold_78 : decode cX7_roadTold 78 = .ok (.ldc 221, 2) := by decide +kernel
theorem dX7_roadTold_80 : decode cX7_roadTold 80 = .ok (.aload_n 1, 1) := by decide +kernel
theorem dX7_roadTold_81 : decode cX7_roadTold 81 = .ok (.iconst 3, 1) := by decide +kernel
theorem dX7_roadTold_82 : decode cX7_roadTold 82 = .ok (.iconst 0, 1) := by decide +kernel
theorem dX7_roadTold_83 : decode cX7_roadTold 83 = .ok (.bipush 9, 2) := by decide +kernel
theorem dX7_roadTold_85 : decode cX7_roadTold 85 = .ok (.invokevirtual 223, 3) := by decide +kernel
theorem dX7_roadTold_88 : decode cX7_roadTold 88 = .ok (.ifCond .eq 31, 3) := by decide +kernel
theorem dX7_roadTold_91 : decode cX7_roadTold 91 = .ok (.aload_n 0, 1) := by decide +kernel
theorem dX7_roadTold_92 : decode cX7_roadTold 92 = .ok (.ldc 226, 2) := by decide +kernel
theorem dX7_roadTold_94 : decode cX7_roadTold 94 = .ok (.aload_n 1, 1) := by decide +kernel
theorem dX7_roadTold_95 : decode cX7_roadTold 95 = .ok (.iconst 4, 1) := by decide +kernel
theorem dX7_roadTold_96 : decode cX7_roadTold 96 = .ok (.iconst 1, 1) := by decide +kernel
theorem dX7_roadTold_97 : decode cX7_roadTold 97 = .ok (.bipush 99, 2) := by decide +kernel
theorem dX7_roadTold_99 : decode cX7_roadTold 99 = .ok (.invokevirtual 223, 3) := by decide +kernel
theorem dX7_roadTold_102 : decode cX7_roadTold 102 = .ok (.ifCond .eq 17, 3) := by decide +kernel
theorem dX7_roadTold_105 : decode cX7_roadTold 105 = .ok (.aload_n 0, 1) := by decide +kernel
theorem dX7_roadTold_106 : decode cX7_roadTold 106 = .ok (.ldc 228, 2) := by decide +kernel
theorem dX7_roadTold_108 : decode cX7_roadTold 108 = .ok (.aload_n 1, 1) := by decide +kernel
theorem dX7_roadTold_109 : decode cX7_roadTold 109 = .ok (.iconst 5, 1) := by decide +kernel
theorem dX7_roadTold_110 : decode cX7_roadTold 110 = .ok (.iconst 0, 1) := by decide +kernel
theorem dX7_roadTold_111 : decode cX7_roadTold 111 = .ok (.bipush 15, 2) := by decide +kernel
theorem dX7_roadTold_113 : decode cX7_roadTold 113 = .ok (.invokevirtual 223, 3) := by decide +kernel
theorem dX7_roadTold_116 : decode cX7_roadTold 116 = .ok (.ifCond .ne 5, 3) := by decide +kernel
theorem dX7_roadTold_119 : decode cX7_roadTold 119 = .ok (.iconst 0, 1) := by decide +kernel
theorem dX7_roadTold_120 : decode cX7_roadTold 120 = .ok (.ireturn, 1) := by decide +kernel
theorem dX7_roadTold_121 : decode cX7_roadTold 121 = .ok (.aload_n 0, 1) := by decide +kernel
theorem dX7_roadTold_122 : decode cX7_roadTold 122 = .ok (.dup, 1) := by decide +kernel
theorem dX7_roadTold_123 : decode cX7_roadTold 123 = .ok (.getfield 66, 3) := by decide +kernel
theorem dX7_roadTold_126 : decode cX7_roadTold 126 = .ok (.iconst 1, 1) := by decide +kernel
theorem dX7_roadTold_127 : decode cX7_roadTold 127 = .ok (.iadd, 1) := by decide +kernel
theorem dX7_roadTold_128 : decode cX7_roadTold 128 = .ok (.putfield 66, 3) := by decide +kernel
theorem dX7_roadTold_131 : decode cX7_roadTold 131 = .ok (.iconst 1, 1) := by decide +kernel
theorem dX7_roadTold_132 : decode cX7_roadTold 132 = .ok (.ireturn, 1) := by decide +kernel

