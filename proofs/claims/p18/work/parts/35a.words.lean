theorem q_40 : Cond.selects RX7 yX7_statement yX7_statement ∈ oh_t := oh_of (i := 40) (by decide +kernel) rfl
theorem q_42 : Cond.selects RX7 yX7_roadTold yX7_roadTold ∈ oh_t := oh_of (i := 42) (by decide +kernel) rfl
theorem q_47 : Cond.selects RX7 yX7_bridgeTold yX7_bridgeTold ∈ oh_t := oh_of (i := 47) (by decide +kernel) rfl
theorem q_999 : Cond.fieldLink RX7 240 "OneHeavyLoadModel" "statements" "I" ∈ oh_t := oh_of (i := 999) (by decide +kernel) rfl
theorem q_1210 : Cond.methodLink RX7 243 yX7_statement ∈ oh_t := oh_of (i := 1210) (by decide +kernel) rfl
theorem q_1212 : Cond.instanceMethod yX7_statement ∈ oh_t := oh_of (i := 1212) (by decide +kernel) rfl
theorem q_1213 : Cond.code yX7_statement cX7_statement 2 (some .boolean) ∈ oh_t := oh_of (i := 1213) (by decide +kernel) rfl
theorem q_1221 : Cond.methodLink RX7 201 yX7_roadTold ∈ oh_t := oh_of (i := 1221) (by decide +kernel) rfl
theorem q_1223 : Cond.instanceMethod yX7_roadTold ∈ oh_t := oh_of (i := 1223) (by decide +kernel) rfl
theorem q_1224 : Cond.code yX7_roadTold cX7_roadTold 2 (some .boolean) ∈ oh_t := oh_of (i := 1224) (by decide +kernel) rfl
theorem q_1246 : Cond.methodLink RX7 206 yX7_bridgeTold ∈ oh_t := oh_of (i := 1246) (by decide +kernel) rfl
theorem q_1248 : Cond.instanceMethod yX7_bridgeTold ∈ oh_t := oh_of (i := 1248) (by decide +kernel) rfl
theorem q_1249 : Cond.code yX7_bridgeTold cX7_bridgeTold 2 (some .boolean) ∈ oh_t := oh_of (i := 1249) (by decide +kernel) rfl
theorem pdVX7_bridgeTold : yX7_bridgeTold.cls = RX7 ∧ yX7_bridgeTold.cls ≠ "java/lang/invoke/MethodHandle" ∧ yX7_bridgeTold.cls ≠ "java/lang/invoke/VarHandle" ∧ (parseMethodDescriptor yX7_bridgeTold.desc).map (fun d => d.parameters.length) = some 1 := by decide +kernel
theorem pdVX7_roadTold : yX7_roadTold.cls = RX7 ∧ yX7_roadTold.cls ≠ "java/lang/invoke/MethodHandle" ∧ yX7_roadTold.cls ≠ "java/lang/invoke/VarHandle" ∧ (parseMethodDescriptor yX7_roadTold.desc).map (fun d => d.parameters.length) = some 1 := by decide +kernel
theorem pdVX7_statement : yX7_statement.cls = RX7 ∧ yX7_statement.cls ≠ "java/lang/invoke/MethodHandle" ∧ yX7_statement.cls ≠ "java/lang/invoke/VarHandle" ∧ (parseMethodDescriptor yX7_statement.desc).map (fun d => d.parameters.length) = some 0 := by decide +kernel
theorem dX7_read_0 : decode cX7_read 0 = .ok (.aload_n 0, 1) := by decide +kernel
theorem dX7_read_1 : decode cX7_read 1 = .ok (.iconst 1, 1) := by decide +kernel
theorem dX7_read_2 : decode cX7_read 2 = .ok (.putfield 240, 3) := by decide +kernel
theorem dX7_read_5 : decode cX7_read 5 = .ok (.aload_n 0, 1) := by decide +kernel
theorem dX7_read_6 : decode cX7_read 6 = .ok (.iconst 0, 1) := by decide +kernel
theorem dX7_read_7 : decode cX7_read 7 = .ok (.putfield 143, 3) := by decide +kernel
theorem dX7_read_10 : decode cX7_read 10 = .ok (.aload_n 0, 1) := by decide +kernel
theorem dX7_read_11 : decode cX7_read 11 = .ok (.invokevirtual 185, 3) := by decide +kernel
theorem dX7_read_14 : decode cX7_read 14 = .ok (.aload_n 0, 1) := by decide +kernel
theorem dX7_read_15 : decode cX7_read 15 = .ok (.invokevirtual 243, 3) := by decide +kernel
theorem dX7_read_18 : decode cX7_read 18 = .ok (.ifCond .ne 5, 3) := by decide +kernel
theorem dX7_read_21 : decode cX7_read 21 = .ok (.iconst 0, 1) := by decide +kernel
theorem dX7_read_22 : decode cX7_read 22 = .ok (.ireturn, 1) := by decide +kernel
theorem dX7_read_23 : decode cX7_read 23 = .ok (.aload_n 0, 1) := by decide +kernel
theorem dX7_read_24 : decode cX7_read 24 = .ok (.getfield 153, 3) := by decide +kernel
theorem dX7_read_27 : decode cX7_read 27 = .ok (.ifCond .eq 42, 3) := by decide +kernel
theorem dX7_read_30 : decode cX7_read 30 = .ok (.aload_n 0, 1) := by decide +kernel
theorem dX7_read_31 : decode cX7_read 31 = .ok (.getfield 153, 3) := by decide +kernel
theorem dX7_read_34 : decode cX7_read 34 = .ok (.iconst 3, 1) := by decide +kernel
theorem dX7_read_35 : decode cX7_read 35 = .ok (.if_icmp .eq 8, 3) := by decide +kernel
theorem dX7_read_38 : decode cX7_read 38 = .ok (.aload_n 0, 1) := by decide +kernel
theorem dX7_read_39 : decode cX7_read 39 = .ok (.invokevirtual 181, 3) := by decide +kernel
theorem dX7_read_42 : decode cX7_read 42 = .ok (.ireturn, 1) := by decide +kernel
theorem dX7_read_43 : decode cX7_read 43 = .ok (.aload_n 0, 1) := by decide +kernel
theorem dX7_read_44 : decode cX7_read 44 = .ok (.invokevirtual 185, 3) := by decide +kernel
theorem dX7_read_47 : decode cX7_read 47 = .ok (.aload_n 0, 1) := by decide +kernel
theorem dX7_read_48 : decode cX7_read 48 = .ok (.invokevirtual 243, 3) := by decide +kernel
theorem dX7_read_51 : decode cX7_read 51 = .ok (.ifCond .ne 5, 3) := by decide +kernel
theorem dX7_read_54 : decode cX7_read 54 = .ok (.iconst 0, 1) := by decide +kernel
theorem dX7_read_55 : decode cX7_read 55 = .ok (.ireturn, 1) := by decide +kernel
theorem dX7_read_56 : decode cX7_read 56 = .ok (.aload_n 0, 1) := by decide +kernel
theorem dX7_read_57 : decode cX7_read 57 = .ok (.dup, 1) := by decide +kernel
theorem dX7_read_58 : decode cX7_read 58 = .ok (.getfield 240, 3) := by decide +kernel
theorem dX7_read_61 : decode cX7_read 61 = .ok (.iconst 1, 1) := by decide +kernel
theorem dX7_read_62 : decode cX7_read 62 = .ok (.iadd, 1) := by decide +kernel
theorem dX7_read_63 : decode cX7_read 63 = .ok (.putfield 240, 3) := by decide +kernel
theorem dX7_read_66 : decode cX7_read 66 = .ok (.goto (-43), 3) := by decide +kernel
theorem dX7_read_69 : decode cX7_read 69 = .ok (.iconst 1, 1) := by decide +kernel
theorem dX7_read_70 : decode cX7_read 70 = .ok (.ireturn, 1) := by decide +kernel
theorem dX7_statement_0 : decode cX7_statement 0 = .ok (.aload_n 0, 1) := by decide +kernel
theorem dX7_statement_1 : decode cX7_statement 1 = .ok (.ldc 200, 2) := by decide +kernel
theorem dX7_statement_3 : decode cX7_statement 3 = .ok (.invokevirtual 188, 3) := by decide +kernel
theorem dX7_statement_6 : decode cX7_statement 6 = .ok (.ifCond .eq 26, 3) := by decide +kernel
theorem dX7_statement_9 : decode cX7_statement 9 = .ok (.aload_n 0, 1) := by decide +kernel
theorem dX7_statement_10 : decode cX7_statement 10 = .ok (.getfield 66, 3) := by decide +kernel
theorem dX7_statement_13 : decode cX7_statement 13 = .ok (.bipush 24, 2) := by decide +kernel
theorem dX7_statement_15 : decode cX7_statement 15 = .ok (.if_icmp .ge 17, 3) := by decide +kernel
theorem dX7_statement_18 : decode cX7_statement 18 = .ok (.aload_n 0, 1) := by decide +kernel
theorem dX7_statement_19 : decode cX7_statement 19 = .ok (.aload_n 0, 1) := by decide +kernel
theorem dX7_statement_20 : decode cX7_statement 20 = .ok (.getfield 39, 3) := by decide +kernel
theorem dX7_statement_23 : decode cX7_statement 23 = .ok (.aload_n 0, 1) := by decide +kernel
theorem dX7_statement_24 : decode cX7_statement 24 = .ok (.getfield 66, 3) := by decide +kernel
theorem dX7_statement_27 : decode cX7_statement 27 = .ok (.aaload, 1) := by decide +kernel
theorem dX7_statement_28 : decode cX7_statement 28 = .ok (.invokevirtual 201, 3) := by decide +kernel
theorem dX7_statement_31 : decode cX7_statement 31 = .ok (.ireturn, 1) := by decide +kernel
theorem dX7_statement_32 : decode cX7_statement 32 = .ok (.aload_n 0, 1) := by decide +kernel
theorem dX7_statement_33 : decode cX7_statement 33 = .ok (.ldc 205, 2) := by decide +kernel
theorem dX7_statement_35 : decode cX7_statement 35 = .ok (.invokevirtual 188, 3) := by decide +kernel
theorem dX7_statement_38 : decode cX7_statement 38 = .ok (.ifCond .eq 26, 3) := by decide +kernel
theorem dX7_statement_41 : decode cX7_statement 41 = .ok (.aload_n 0, 1) := by decide +kernel
theorem dX7_statement_42 : decode cX7_statement 42 = .ok (.getfield 70, 3) := by decide +kernel
theorem dX7_statement_45 : decode cX7_statement 45 = .ok (.bipush 16, 2) := by decide +kernel
theorem dX7_statement_47 : decode cX7_statement 47 = .ok (.if_icmp .ge 17, 3) := by decide +kernel
theorem dX7_statement_50 : decode cX7_statement 50 = .ok (.aload_n 0, 1) := by decide +kernel
theorem dX7_statement_51 : decode cX7_statement 51 = .ok (.aload_n 0, 1) := by decide +kernel
theorem dX7_statement_52 : decode cX7_statement 52 = .ok (.getfield 42, 3) := by decide +kernel
theorem dX7_statement_55 : decode cX7_statement 55 = .ok (.aload_n 0, 1) := by decide +kernel
theorem dX7_statement_56 : decode cX7_statement 56 = .ok (.getfield 70, 3) := by decide +kernel
theorem dX7_statement_59 : decode cX7_statement 59 = .ok (.aaload, 1) := by decide +kernel
theorem dX7_statement_60 : decode cX7_statement 60 = .ok (.invokevirtual 206, 3) := by decide +kernel
theorem dX7_statement_63 : decode cX7_statement 63 = .ok (.ireturn, 1) := by decide +kernel
theorem dX7_statement_64 : decode cX7_statement 64 = .ok (.aload_n 0, 1) := by decide +kernel
theorem dX7_statement_65 : decode cX7_statement 65 = .ok (.ldc 209, 2) := by decide +kernel
theorem dX7_statement_67 : decode cX7_statement 67 = .ok (.invokevirtual 188, 3) := by decide +kernel
theorem dX7_statement_70 : decode cX7_statement 70 = .ok (.ifCond .eq 77, 3) := by decide +kernel
theorem dX7_statement_73 : decode cX7_statement 73 = .ok (.aload_n 0, 1) := by decide +kernel
theorem dX7_statement_74 : decode cX7_statement 74 = .ok (.getfield 73, 3) := by decide +kernel
theorem dX7_statement_77 : decode cX7_statement 77 = .ok (.iconst 5, 1) := by decide +kernel
theorem dX7_statement_78 : decode cX7_statement 78 = .ok (.if_icmp .ge 69, 3) := by decide +kernel
theorem dX7_statement_81 : decode cX7_statement 81 = .ok (.aload_n 0, 1) := by decide +kernel
theorem dX7_statement_82 : decode cX7_statement 82 = .ok (.getfield 45, 3) := by decide +kernel
theorem dX7_statement_85 : decode cX7_statement 85 = .ok (.aload_n 0, 1) := by decide +kernel
theorem dX7_statement_86 : decode cX7_statement 86 = .ok (.getfield 73, 3) := by decide +kernel
theorem dX7_statement_89 : decode cX7_statement 89 = .ok (.aaload, 1) := by decide +kernel
theorem dX7_statement_90 : decode cX7_statement 90 = .ok (.astore_n 1, 1) := by decide +kernel
theorem dX7_statement_91 : decode cX7_statement 91 = .ok (.aload_n 0, 1) := by decide +kernel
theorem dX7_statement_92 : decode cX7_statement 92 = .ok (.ldc 209, 2) := by decide +kernel
theorem dX7_statement_94 : decode cX7_statement 94 = .ok (.aload_n 1, 1) := by decide +kernel
theorem dX7_statement_95 : decode cX7_statement 95 = .ok (.iconst 0, 1) := by decide +kernel
theorem dX7_statement_96 : decode cX7_statement 96 = .ok (.iconst 2, 1) := by decide +kernel
theorem dX7_statement_97 : decode cX7_statement 97 = .ok (.bipush 12, 2) := by decide +kernel
theorem dX7_statement_99 : decode cX7_statement 99 = .ok (.invokevirtual 196, 3) := by decide +kernel
theorem dX7_statement_102 : decode cX7_statement 102 = .ok (.ifCond .eq 31, 3) := by decide +kernel
theorem dX7_statement_105 : decode cX7_statement 105 = .ok (.aload_n 0, 1) := by decide +kernel
theorem dX7_statement_106 : decode cX7_statement 106 = .ok (.ldc 210, 2) := by decide +kernel
theorem dX7_statement_108 : decode cX7_statement 108 = .ok (.aload_n 1, 1) := by decide +kernel
theorem dX7_statement_109 : decode cX7_statement 109 = .ok (.iconst 1, 1) := by decide +kernel
theorem dX7_statement_110 : decode cX7_statement 110 = .ok (.iconst 1, 1) := by decide +kernel
theorem dX7_statement_111 : decode cX7_statement 111 = .ok (.bipush 9, 2) := by decide +kernel
theorem dX7_statement_113 : decode cX7_statement 113 = .ok (.invokevirtual 196, 3) := by decide +kernel
theorem dX7_statement_116 : decode cX7_statement 116 = .ok (.ifCond .eq 17, 3) := by decide +kernel
theorem dX7_statement_119 : decode cX7_statement 119 = .ok (.aload_n 0, 1) := by decide +kernel
theorem dX7_statement_120 : decode cX7_statement 120 = .ok (.ldc 212, 2) := by decide +kernel
theorem dX7_statement_122 : decode cX7_statement 122 = .ok (.aload_n 1, 1) := by decide +kernel
theorem dX7_statement_123 : decode cX7_statement 123 = .ok (.iconst 2, 1) := by decide +kernel
theorem dX7_statement_124 : decode cX7_statement 124 = .ok (.iconst 0, 1) := by decide +kernel
theorem dX7_statement_125 : decode cX7_statement 125 = .ok (.bipush 99, 2) := by decide +kernel
theorem dX7_statement_127 : decode cX7_statement 127 = .ok (.invokevirtual 196, 3) := by decide +kernel
theorem dX7_statement_130 : decode cX7_statement 130 = .ok (.ifCond .ne 5, 3) := by decide +kernel
theorem dX7_statement_133 : decode cX7_statement 133 = .ok (.iconst 0, 1) := by decide +kernel
theorem dX7_statement_134 : decode cX7_statement 134 = .ok (.ireturn, 1) := by decide +kernel
theorem dX7_statement_135 : decode cX7_statement 135 = .ok (.aload_n 0, 1) := by decide +kernel
theorem dX7_statement_136 : decode cX7_statement 136 = .ok (.dup, 1) := by decide +kernel
theorem dX7_statement_137 : decode cX7_statement 137 = .ok (.getfield 73, 3) := by decide +kernel
theorem dX7_statement_140 : decode cX7_statement 140 = .ok (.iconst 1, 1) := by decide +kernel
theorem dX7_statement_141 : decode cX7_statement 141 = .ok (.iadd, 1) := by decide +kernel
theorem dX7_statement_142 : decode cX7_statement 142 = .ok (.putfield 73, 3) := by decide +kernel
theorem dX7_statement_145 : decode cX7_statement 145 = .ok (.iconst 1, 1) := by decide +kernel
theorem dX7_statement_146 : decode cX7_statement 146 = .ok (.ireturn, 1) := by decide +kernel
theorem dX7_statement_147 : decode cX7_statement 147 = .ok (.aload_n 0, 1) := by decide +kernel
theorem dX7_statement_148 : decode cX7_statement 148 = .ok (.ldc 214, 2) := by decide +kernel
theorem dX7_statement_150 : decode cX7_statement 150 = .ok (.invokevirtual 188, 3) := by decide +kernel
theorem dX7_statement_153 : decode cX7_statement 153 = .ok (.ifCond .eq 67, 3) := by decide +kernel
theorem dX7_statement_156 : decode cX7_statement 156 = .ok (.aload_n 0, 1) := by decide +kernel
theorem dX7_statement_157 : decode cX7_statement 157 = .ok (.getfield 80, 3) := by decide +kernel
theorem dX7_statement_160 : decode cX7_statement 160 = .ok (.iconst 5, 1) := by decide +kernel
theorem dX7_statement_161 : decode cX7_statement 161 = .ok (.if_icmp .ge 59, 3) := by decide +kernel
theorem dX7_statement_164 : decode cX7_statement 164 = .ok (.aload_n 0, 1) := by decide +kernel
theorem dX7_statement_165 : decode cX7_statement 165 = .ok (.ldc 214, 2) := by decide +kernel
theorem dX7_statement_167 : decode cX7_statement 167 = .ok (.aload_n 0, 1) := by decide +kernel
theorem dX7_statement_168 : decode cX7_statement 168 = .ok (.getfield 48, 3) := by decide +kernel
theorem dX7_statement_171 : decode cX7_statement 171 = .ok (.aload_n 0, 1) := by decide +kernel
theorem dX7_statement_172 : decode cX7_statement 172 = .ok (.getfield 80, 3) := by decide +kernel
theorem dX7_statement_175 : decode cX7_statement 175 = .ok (.aaload, 1) := by decide +kernel
theorem dX7_statement_176 : decode cX7_statement 176 = .ok (.iconst 0, 1) := by decide +kernel
theorem dX7_statement_177 : decode cX7_statement 177 = .ok (.iconst 1, 1) := by decide +kernel
theorem dX7_statement_178 : decode cX7_statement 178 = .ok (.bipush 99, 2) := by decide +kernel
theorem dX7_statement_180 : decode cX7_statement 180 = .ok (.invokevirtual 196, 3) := by decide +kernel
theorem dX7_statement_183 : decode cX7_statement 183 = .ok (.ifCond .eq 23, 3) := by decide +kernel
theorem dX7_statement_186 : decode cX7_statement 186 = .ok (.aload_n 0, 1) := by decide +kernel
theorem dX7_statement_187 : decode cX7_statement 187 = .ok (.aload_n 0, 1) := by decide +kernel
theorem dX7_statement_188 : decode cX7_statement 188 = .ok (.getfield 48, 3) := by decide +kernel
theorem dX7_statement_191 : decode cX7_statement 191 = .ok (.aload_n 0, 1) := by decide +kernel
theorem dX7_statement_192 : decode cX7_statement 192 = .ok (.getfield 80, 3) := by decide +kernel
theorem dX7_statement_195 : decode cX7_statement 195 = .ok (.aaload, 1) := by decide +kernel
theorem dX7_statement_196 : decode cX7_statement 196 = .ok (.iconst 1, 1) := by decide +kernel
theorem dX7_statement_197 : decode cX7_statement 197 = .ok (.iconst 0, 1) := by decide +kernel
theorem dX7_statement_198 : decode cX7_statement 198 = .ok (.bipush 99, 2) := by decide +kernel
theorem dX7_statement_200 : decode cX7_statement 200 = .ok (.invokevirtual 192, 3) := by decide +kernel
theorem dX7_statement_203 : decode cX7_statement 203 = .ok (.ifCond .ne 5, 3) := by decide +kernel
theorem dX7_statement_206 : decode cX7_statement 206 = .ok (.iconst 0, 1) := by decide +kernel
theorem dX7_statement_207 : decode cX7_statement 207 = .ok (.ireturn, 1) := by decide +kernel
theorem dX7_statement_208 : decode cX7_statement 208 = .ok (.aload_n 0, 1) := by decide +kernel
theorem dX7_statement_209 : decode cX7_statement 209 = .ok (.dup, 1) := by decide +kernel
theorem dX7_statement_210 : decode cX7_statement 210 = .ok (.getfield 80, 3) := by decide +kernel
theorem dX7_statement_213 : decode cX7_statement 213 = .ok (.iconst 1, 1) := by decide +kernel
theorem dX7_statement_214 : decode cX7_statement 214 = .ok (.iadd, 1) := by decide +kernel
theorem dX7_statement_215 : decode cX7_statement 215 = .ok (.putfield 80, 3) := by decide +kernel
theorem dX7_statement_218 : decode cX7_statement 218 = .ok (.iconst 1, 1) := by decide +kernel
theorem dX7_statement_219 : decode cX7_statement 219 = .ok (.ireturn, 1) := by decide +kernel
theorem dX7_statement_220 : decode cX7_statement 220 = .ok (.aload_n 0, 1) := by decide +kernel
theorem dX7_statement_221 : decode cX7_statement 221 = .ok (.ldc 215, 2) := by decide +kernel
theorem dX7_statement_223 : decode cX7_statement 223 = .ok (.invokevirtual 188, 3) := by decide +kernel
theorem dX7_statement_226 : decode cX7_statement 226 = .ok (.ifCond .eq 19, 3) := by decide +kernel
theorem dX7_statement_229 : decode cX7_statement 229 = .ok (.aload_n 0, 1) := by decide +kernel
theorem dX7_statement_230 : decode cX7_statement 230 = .ok (.ldc 215, 2) := by decide +kernel
theorem dX7_statement_232 : decode cX7_statement 232 = .ok (.aload_n 0, 1) := by decide +kernel
theorem dX7_statement_233 : decode cX7_statement 233 = .ok (.getfield 51, 3) := by decide +kernel
theorem dX7_statement_236 : decode cX7_statement 236 = .ok (.iconst 0, 1) := by decide +kernel
theorem dX7_statement_237 : decode cX7_statement 237 = .ok (.iconst 0, 1) := by decide +kernel
theorem dX7_statement_238 : decode cX7_statement 238 = .ok (.sipush 900, 3) := by decide +kernel
theorem dX7_statement_241 : decode cX7_statement 241 = .ok (.invokevirtual 196, 3) := by decide +kernel
theorem dX7_statement_244 : decode cX7_statement 244 = .ok (.ireturn, 1) := by decide +kernel
theorem dX7_statement_245 : decode cX7_statement 245 = .ok (.aload_n 0, 1) := by decide +kernel
theorem dX7_statement_246 : decode cX7_statement 246 = .ok (.ldc 217, 2) := by decide +kernel
theorem dX7_statement_248 : decode cX7_statement 248 = .ok (.aload_n 0, 1) := by decide +kernel
theorem dX7_statement_249 : decode cX7_statement 249 = .ok (.getfield 51, 3) := by decide +kernel
theorem dX7_statement_252 : decode cX7_statement 252 = .ok (.iconst 1, 1) := by decide +kernel
theorem dX7_statement_253 : decode cX7_statement 253 = .ok (.iconst 0, 1) := by decide +kernel
theorem dX7_statement_254 : decode cX7_statement 254 = .ok (.bipush 99, 2) := by decide +kernel
theorem dX7_statement_256 : decode cX7_statement 256 = .ok (.invokevirtual 196, 3) := by decide +kernel
theorem dX7_statement_259 : decode cX7_statement 259 = .ok (.ireturn, 1) := by decide +kernel

