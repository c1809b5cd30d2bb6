theorem q_99 : Cond.fieldLink RX5 45 "OneHeavyLoad$Land" "counts" "[I" ∈ oh_t := oh_of (i := 99) (by decide +kernel) rfl
theorem q_148 : Cond.fieldLink RX5 54 "OneHeavyLoad$Pack" "fullLength" "I" ∈ oh_t := oh_of (i := 148) (by decide +kernel) rfl
theorem q_704 : Cond.instanceMethod yX1_take ∈ oh_t := oh_of (i := 704) (by decide +kernel) rfl
theorem q_705 : Cond.selects RX1 yX1_take yX1_take ∈ oh_t := oh_of (i := 705) (by decide +kernel) rfl
theorem q_706 : Cond.code yX1_take cX1_take 5 none ∈ oh_t := oh_of (i := 706) (by decide +kernel) rfl
theorem q_738 : Cond.instanceMethod yX1_needsOf ∈ oh_t := oh_of (i := 738) (by decide +kernel) rfl
theorem q_739 : Cond.selects RX1 yX1_needsOf yX1_needsOf ∈ oh_t := oh_of (i := 739) (by decide +kernel) rfl
theorem q_740 : Cond.code yX1_needsOf cX1_needsOf 5 (some .int) ∈ oh_t := oh_of (i := 740) (by decide +kernel) rfl
theorem q_754 : Cond.methodLink RX5 41 yX1_take ∈ oh_t := oh_of (i := 754) (by decide +kernel) rfl
theorem q_756 : Cond.methodLink RX5 58 yX0_ofBridge ∈ oh_t := oh_of (i := 756) (by decide +kernel) rfl
theorem q_757 : Cond.methodLink RX5 61 yX1_needsOf ∈ oh_t := oh_of (i := 757) (by decide +kernel) rfl
theorem pdVX1_needsOf : yX1_needsOf.cls = RX1 ∧ yX1_needsOf.cls ≠ "java/lang/invoke/MethodHandle" ∧ yX1_needsOf.cls ≠ "java/lang/invoke/VarHandle" ∧ (parseMethodDescriptor yX1_needsOf.desc).map (fun d => d.parameters.length) = some 2 := by decide +kernel
theorem pdVX1_take : yX1_take.cls = RX1 ∧ yX1_take.cls ≠ "java/lang/invoke/MethodHandle" ∧ yX1_take.cls ≠ "java/lang/invoke/VarHandle" ∧ (parseMethodDescriptor yX1_take.desc).map (fun d => d.parameters.length) = some 3 := by decide +kernel
theorem dX5_survey_0 : decode cX5_survey 0 = .ok (.aload_n 0, 1) := by decide +kernel
theorem dX5_survey_1 : decode cX5_survey 1 = .ok (.getfield 18, 3) := by decide +kernel
theorem dX5_survey_4 : decode cX5_survey 4 = .ok (.aload_n 0, 1) := by decide +kernel
theorem dX5_survey_5 : decode cX5_survey 5 = .ok (.getfield 9, 3) := by decide +kernel
theorem dX5_survey_8 : decode cX5_survey 8 = .ok (.iload_n 1, 1) := by decide +kernel
theorem dX5_survey_9 : decode cX5_survey 9 = .ok (.iload_n 2, 1) := by decide +kernel
theorem dX5_survey_10 : decode cX5_survey 10 = .ok (.invokevirtual 41, 3) := by decide +kernel
theorem dX5_survey_13 : decode cX5_survey 13 = .ok (.iconst 0, 1) := by decide +kernel
theorem dX5_survey_14 : decode cX5_survey 14 = .ok (.istore_n 3, 1) := by decide +kernel
theorem dX5_survey_15 : decode cX5_survey 15 = .ok (.iload_n 3, 1) := by decide +kernel
theorem dX5_survey_16 : decode cX5_survey 16 = .ok (.aload_n 0, 1) := by decide +kernel
theorem dX5_survey_17 : decode cX5_survey 17 = .ok (.getfield 9, 3) := by decide +kernel
theorem dX5_survey_20 : decode cX5_survey 20 = .ok (.getfield 45, 3) := by decide +kernel
theorem dX5_survey_23 : decode cX5_survey 23 = .ok (.iconst 0, 1) := by decide +kernel
theorem dX5_survey_24 : decode cX5_survey 24 = .ok (.iaload, 1) := by decide +kernel
theorem dX5_survey_25 : decode cX5_survey 25 = .ok (.if_icmp .ge 71, 3) := by decide +kernel
theorem dX5_survey_28 : decode cX5_survey 28 = .ok (.aload_n 0, 1) := by decide +kernel
theorem dX5_survey_29 : decode cX5_survey 29 = .ok (.getfield 9, 3) := by decide +kernel
theorem dX5_survey_32 : decode cX5_survey 32 = .ok (.iload_n 3, 1) := by decide +kernel
theorem dX5_survey_33 : decode cX5_survey 33 = .ok (.bipush 6, 2) := by decide +kernel
theorem dX5_survey_35 : decode cX5_survey 35 = .ok (.invokevirtual 50, 3) := by decide +kernel
theorem dX5_survey_38 : decode cX5_survey 38 = .ok (.ifCond .ne 26, 3) := by decide +kernel
theorem dX5_survey_41 : decode cX5_survey 41 = .ok (.aload_n 0, 1) := by decide +kernel
theorem dX5_survey_42 : decode cX5_survey 42 = .ok (.getfield 9, 3) := by decide +kernel
theorem dX5_survey_45 : decode cX5_survey 45 = .ok (.iload_n 3, 1) := by decide +kernel
theorem dX5_survey_46 : decode cX5_survey 46 = .ok (.iconst 4, 1) := by decide +kernel
theorem dX5_survey_47 : decode cX5_survey 47 = .ok (.invokevirtual 50, 3) := by decide +kernel
theorem dX5_survey_50 : decode cX5_survey 50 = .ok (.aload_n 0, 1) := by decide +kernel
theorem dX5_survey_51 : decode cX5_survey 51 = .ok (.getfield 18, 3) := by decide +kernel
theorem dX5_survey_54 : decode cX5_survey 54 = .ok (.getfield 54, 3) := by decide +kernel
theorem dX5_survey_57 : decode cX5_survey 57 = .ok (.if_icmp .lt 7, 3) := by decide +kernel
theorem dX5_survey_60 : decode cX5_survey 60 = .ok (.iconst 1, 1) := by decide +kernel
theorem dX5_survey_61 : decode cX5_survey 61 = .ok (.goto 4, 3) := by decide +kernel
theorem dX5_survey_64 : decode cX5_survey 64 = .ok (.iconst 0, 1) := by decide +kernel
theorem dX5_survey_65 : decode cX5_survey 65 = .ok (.istore 4, 2) := by decide +kernel
theorem dX5_survey_67 : decode cX5_survey 67 = .ok (.aload_n 0, 1) := by decide +kernel
theorem dX5_survey_68 : decode cX5_survey 68 = .ok (.getfield 26, 3) := by decide +kernel
theorem dX5_survey_71 : decode cX5_survey 71 = .ok (.iload_n 3, 1) := by decide +kernel
theorem dX5_survey_72 : decode cX5_survey 72 = .ok (.iload 4, 2) := by decide +kernel
theorem dX5_survey_74 : decode cX5_survey 74 = .ok (.ifCond .eq 7, 3) := by decide +kernel
theorem dX5_survey_77 : decode cX5_survey 77 = .ok (.iconst 0, 1) := by decide +kernel
theorem dX5_survey_78 : decode cX5_survey 78 = .ok (.goto 4, 3) := by decide +kernel
theorem dX5_survey_81 : decode cX5_survey 81 = .ok (.iconst (-1), 1) := by decide +kernel
theorem dX5_survey_82 : decode cX5_survey 82 = .ok (.iastore, 1) := by decide +kernel
theorem dX5_survey_83 : decode cX5_survey 83 = .ok (.aload_n 0, 1) := by decide +kernel
theorem dX5_survey_84 : decode cX5_survey 84 = .ok (.getfield 29, 3) := by decide +kernel
theorem dX5_survey_87 : decode cX5_survey 87 = .ok (.iload_n 3, 1) := by decide +kernel
theorem dX5_survey_88 : decode cX5_survey 88 = .ok (.iconst 0, 1) := by decide +kernel
theorem dX5_survey_89 : decode cX5_survey 89 = .ok (.iastore, 1) := by decide +kernel
theorem dX5_survey_90 : decode cX5_survey 90 = .ok (.iinc 3 1, 3) := by decide +kernel
theorem dX5_survey_93 : decode cX5_survey 93 = .ok (.goto (-78), 3) := by decide +kernel
theorem dX5_survey_96 : decode cX5_survey 96 = .ok (.iconst 0, 1) := by decide +kernel
theorem dX5_survey_97 : decode cX5_survey 97 = .ok (.istore_n 3, 1) := by decide +kernel
theorem dX5_survey_98 : decode cX5_survey 98 = .ok (.iload_n 3, 1) := by decide +kernel
theorem dX5_survey_99 : decode cX5_survey 99 = .ok (.aload_n 0, 1) := by decide +kernel
theorem dX5_survey_100 : decode cX5_survey 100 = .ok (.getfield 9, 3) := by decide +kernel
theorem dX5_survey_103 : decode cX5_survey 103 = .ok (.getfield 45, 3) := by decide +kernel
theorem dX5_survey_106 : decode cX5_survey 106 = .ok (.iconst 1, 1) := by decide +kernel
theorem dX5_survey_107 : decode cX5_survey 107 = .ok (.iaload, 1) := by decide +kernel
theorem dX5_survey_108 : decode cX5_survey 108 = .ok (.if_icmp .ge 103, 3) := by decide +kernel
theorem dX5_survey_111 : decode cX5_survey 111 = .ok (.aload_n 0, 1) := by decide +kernel
theorem dX5_survey_112 : decode cX5_survey 112 = .ok (.getfield 9, 3) := by decide +kernel
theorem dX5_survey_115 : decode cX5_survey 115 = .ok (.iload_n 3, 1) := by decide +kernel
theorem dX5_survey_116 : decode cX5_survey 116 = .ok (.iconst 0, 1) := by decide +kernel
theorem dX5_survey_117 : decode cX5_survey 117 = .ok (.invokevirtual 58, 3) := by decide +kernel
theorem dX5_survey_120 : decode cX5_survey 120 = .ok (.istore 4, 2) := by decide +kernel
theorem dX5_survey_122 : decode cX5_survey 122 = .ok (.aload_n 0, 1) := by decide +kernel
theorem dX5_survey_123 : decode cX5_survey 123 = .ok (.getfield 26, 3) := by decide +kernel
theorem dX5_survey_126 : decode cX5_survey 126 = .ok (.iload 4, 2) := by decide +kernel
theorem dX5_survey_128 : decode cX5_survey 128 = .ok (.iaload, 1) := by decide +kernel
theorem dX5_survey_129 : decode cX5_survey 129 = .ok (.iconst (-1), 1) := by decide +kernel
theorem dX5_survey_130 : decode cX5_survey 130 = .ok (.if_icmp .ne 7, 3) := by decide +kernel
theorem dX5_survey_133 : decode cX5_survey 133 = .ok (.iconst 2, 1) := by decide +kernel
theorem dX5_survey_134 : decode cX5_survey 134 = .ok (.goto 15, 3) := by decide +kernel
theorem dX5_survey_137 : decode cX5_survey 137 = .ok (.aload_n 0, 1) := by decide +kernel
theorem dX5_survey_138 : decode cX5_survey 138 = .ok (.getfield 18, 3) := by decide +kernel
theorem dX5_survey_141 : decode cX5_survey 141 = .ok (.aload_n 0, 1) := by decide +kernel
theorem dX5_survey_142 : decode cX5_survey 142 = .ok (.getfield 9, 3) := by decide +kernel
theorem dX5_survey_145 : decode cX5_survey 145 = .ok (.iload_n 3, 1) := by decide +kernel
theorem dX5_survey_146 : decode cX5_survey 146 = .ok (.invokevirtual 61, 3) := by decide +kernel
theorem dX5_survey_149 : decode cX5_survey 149 = .ok (.istore 5, 2) := by decide +kernel
theorem dX5_survey_151 : decode cX5_survey 151 = .ok (.iload 5, 2) := by decide +kernel
theorem dX5_survey_153 : decode cX5_survey 153 = .ok (.iconst 2, 1) := by decide +kernel
theorem dX5_survey_154 : decode cX5_survey 154 = .ok (.if_icmp .ne 14, 3) := by decide +kernel
theorem dX5_survey_157 : decode cX5_survey 157 = .ok (.aload_n 0, 1) := by decide +kernel
theorem dX5_survey_158 : decode cX5_survey 158 = .ok (.getfield 26, 3) := by decide +kernel
theorem dX5_survey_161 : decode cX5_survey 161 = .ok (.iload 4, 2) := by decide +kernel
theorem dX5_survey_163 : decode cX5_survey 163 = .ok (.iconst (-1), 1) := by decide +kernel
theorem dX5_survey_164 : decode cX5_survey 164 = .ok (.iastore, 1) := by decide +kernel
theorem dX5_survey_165 : decode cX5_survey 165 = .ok (.goto 40, 3) := by decide +kernel
theorem dX5_survey_168 : decode cX5_survey 168 = .ok (.iload 5, 2) := by decide +kernel
theorem dX5_survey_170 : decode cX5_survey 170 = .ok (.iconst 1, 1) := by decide +kernel
theorem dX5_survey_171 : decode cX5_survey 171 = .ok (.if_icmp .ne 34, 3) := by decide +kernel
theorem dX5_survey_174 : decode cX5_survey 174 = .ok (.aload_n 0, 1) := by decide +kernel
theorem dX5_survey_175 : decode cX5_survey 175 = .ok (.getfield 26, 3) := by decide +kernel
theorem dX5_survey_178 : decode cX5_survey 178 = .ok (.iload 4, 2) := by decide +kernel
theorem dX5_survey_180 : decode cX5_survey 180 = .ok (.dup2, 1) := by decide +kernel
theorem dX5_survey_181 : decode cX5_survey 181 = .ok (.iaload, 1) := by decide +kernel
theorem dX5_survey_182 : decode cX5_survey 182 = .ok (.iconst 1, 1) := by decide +kernel
theorem dX5_survey_183 : decode cX5_survey 183 = .ok (.iadd, 1) := by decide +kernel
theorem dX5_survey_184 : decode cX5_survey 184 = .ok (.iastore, 1) := by decide +kernel
theorem dX5_survey_185 : decode cX5_survey 185 = .ok (.aload_n 0, 1) := by decide +kernel
theorem dX5_survey_186 : decode cX5_survey 186 = .ok (.getfield 29, 3) := by decide +kernel
theorem dX5_survey_189 : decode cX5_survey 189 = .ok (.iload 4, 2) := by decide +kernel
theorem dX5_survey_191 : decode cX5_survey 191 = .ok (.dup2, 1) := by decide +kernel
theorem dX5_survey_192 : decode cX5_survey 192 = .ok (.iaload, 1) := by decide +kernel
theorem dX5_survey_193 : decode cX5_survey 193 = .ok (.aload_n 0, 1) := by decide +kernel
theorem dX5_survey_194 : decode cX5_survey 194 = .ok (.getfield 9, 3) := by decide +kernel
theorem dX5_survey_197 : decode cX5_survey 197 = .ok (.iload_n 3, 1) := by decide +kernel
theorem dX5_survey_198 : decode cX5_survey 198 = .ok (.bipush 6, 2) := by decide +kernel
theorem dX5_survey_200 : decode cX5_survey 200 = .ok (.invokevirtual 58, 3) := by decide +kernel
theorem dX5_survey_203 : decode cX5_survey 203 = .ok (.iadd, 1) := by decide +kernel
theorem dX5_survey_204 : decode cX5_survey 204 = .ok (.iastore, 1) := by decide +kernel
theorem dX5_survey_205 : decode cX5_survey 205 = .ok (.iinc 3 1, 3) := by decide +kernel
theorem dX5_survey_208 : decode cX5_survey 208 = .ok (.goto (-110), 3) := by decide +kernel
theorem dX5_survey_211 : decode cX5_survey 211 = .ok (.return_, 1) := by decide +kernel
