theorem q_71 : Cond.initialized RX4 ∈ oh_t := oh_of (i := 71) (by decide +kernel) rfl
theorem q_217 : Cond.fieldLink RX4 9 "OneHeavyLoad$Tape" "bytes" "[I" ∈ oh_t := oh_of (i := 217) (by decide +kernel) rfl
theorem q_218 : Cond.fieldLink RX4 15 "OneHeavyLoad$Tape" "size" "I" ∈ oh_t := oh_of (i := 218) (by decide +kernel) rfl
theorem q_220 : Cond.fieldLink RX4 19 "OneHeavyLoad$Tape" "fault" "I" ∈ oh_t := oh_of (i := 220) (by decide +kernel) rfl
theorem q_222 : Cond.fieldLink RX4 31 "OneHeavyLoad$Tape" "sort" "I" ∈ oh_t := oh_of (i := 222) (by decide +kernel) rfl
theorem q_223 : Cond.fieldLink RX4 28 "OneHeavyLoad$Tape" "start" "I" ∈ oh_t := oh_of (i := 223) (by decide +kernel) rfl
theorem q_224 : Cond.fieldLink RX4 22 "OneHeavyLoad$Tape" "end" "I" ∈ oh_t := oh_of (i := 224) (by decide +kernel) rfl
theorem q_508 : Cond.methodLink RX4 25 yX4_advance ∈ oh_t := oh_of (i := 508) (by decide +kernel) rfl
theorem q_509 : Cond.instanceMethod yX4_advance ∈ oh_t := oh_of (i := 509) (by decide +kernel) rfl
theorem q_510 : Cond.selects RX4 yX4_advance yX4_advance ∈ oh_t := oh_of (i := 510) (by decide +kernel) rfl
theorem q_511 : Cond.code yX4_advance cX4_advance 1 none ∈ oh_t := oh_of (i := 511) (by decide +kernel) rfl
theorem q_518 : Cond.instanceMethod yX4_isWord ∈ oh_t := oh_of (i := 518) (by decide +kernel) rfl
theorem q_519 : Cond.selects RX4 yX4_isWord yX4_isWord ∈ oh_t := oh_of (i := 519) (by decide +kernel) rfl
theorem q_520 : Cond.code yX4_isWord cX4_isWord 3 (some .boolean) ∈ oh_t := oh_of (i := 520) (by decide +kernel) rfl
theorem q_521 : Cond.methodLink RX4 34 yJ0_length_8abf5 ∈ oh_t := oh_of (i := 521) (by decide +kernel) rfl
theorem q_522 : Cond.instanceMethod yJ0_length_8abf5 ∈ oh_t := oh_of (i := 522) (by decide +kernel) rfl
theorem q_523 : Cond.selects RJ0 yJ0_length_8abf5 yJ0_length_8abf5 ∈ oh_t := oh_of (i := 523) (by decide +kernel) rfl
theorem q_524 : Cond.code yJ0_length_8abf5 cJ0_length_8abf5 1 (some .int) ∈ oh_t := oh_of (i := 524) (by decide +kernel) rfl
theorem q_531 : Cond.methodLink RX4 40 yJ0_charAt_5068e ∈ oh_t := oh_of (i := 531) (by decide +kernel) rfl
theorem q_532 : Cond.instanceMethod yJ0_charAt_5068e ∈ oh_t := oh_of (i := 532) (by decide +kernel) rfl
theorem q_533 : Cond.selects RJ0 yJ0_charAt_5068e yJ0_charAt_5068e ∈ oh_t := oh_of (i := 533) (by decide +kernel) rfl
theorem q_534 : Cond.code yJ0_charAt_5068e cJ0_charAt_5068e 2 (some .char) ∈ oh_t := oh_of (i := 534) (by decide +kernel) rfl
theorem q_580 : Cond.instanceMethod yX4_fail ∈ oh_t := oh_of (i := 580) (by decide +kernel) rfl
theorem q_581 : Cond.selects RX4 yX4_fail yX4_fail ∈ oh_t := oh_of (i := 581) (by decide +kernel) rfl
theorem q_582 : Cond.code yX4_fail cX4_fail 1 none ∈ oh_t := oh_of (i := 582) (by decide +kernel) rfl
theorem q_587 : Cond.methodLink RX4 51 yX4_numberHere ∈ oh_t := oh_of (i := 587) (by decide +kernel) rfl
theorem q_588 : Cond.instanceMethod yX4_numberHere ∈ oh_t := oh_of (i := 588) (by decide +kernel) rfl
theorem q_589 : Cond.selects RX4 yX4_numberHere yX4_numberHere ∈ oh_t := oh_of (i := 589) (by decide +kernel) rfl
theorem q_590 : Cond.code yX4_numberHere cX4_numberHere 3 (some .int) ∈ oh_t := oh_of (i := 590) (by decide +kernel) rfl
theorem q_591 : Cond.methodLink RX4 54 yX4_isSound ∈ oh_t := oh_of (i := 591) (by decide +kernel) rfl
theorem q_592 : Cond.instanceMethod yX4_isSound ∈ oh_t := oh_of (i := 592) (by decide +kernel) rfl
theorem q_593 : Cond.selects RX4 yX4_isSound yX4_isSound ∈ oh_t := oh_of (i := 593) (by decide +kernel) rfl
theorem q_594 : Cond.code yX4_isSound cX4_isSound 1 (some .boolean) ∈ oh_t := oh_of (i := 594) (by decide +kernel) rfl
theorem q_596 : Cond.methodLink RX4 44 yX4_fail ∈ oh_t := oh_of (i := 596) (by decide +kernel) rfl
theorem q_607 : Cond.methodLink RX4 47 yX4_isWord ∈ oh_t := oh_of (i := 607) (by decide +kernel) rfl
theorem pdVJ0_charAt_5068e : yJ0_charAt_5068e.cls = RJ0 ∧ yJ0_charAt_5068e.cls ≠ "java/lang/invoke/MethodHandle" ∧ yJ0_charAt_5068e.cls ≠ "java/lang/invoke/VarHandle" ∧ (parseMethodDescriptor yJ0_charAt_5068e.desc).map (fun d => d.parameters.length) = some 1 := by decide +kernel
theorem pdVJ0_length_8abf5 : yJ0_length_8abf5.cls = RJ0 ∧ yJ0_length_8abf5.cls ≠ "java/lang/invoke/MethodHandle" ∧ yJ0_length_8abf5.cls ≠ "java/lang/invoke/VarHandle" ∧ (parseMethodDescriptor yJ0_length_8abf5.desc).map (fun d => d.parameters.length) = some 0 := by decide +kernel
theorem pdVX4_advance : yX4_advance.cls = RX4 ∧ yX4_advance.cls ≠ "java/lang/invoke/MethodHandle" ∧ yX4_advance.cls ≠ "java/lang/invoke/VarHandle" ∧ (parseMethodDescriptor yX4_advance.desc).map (fun d => d.parameters.length) = some 0 := by decide +kernel
theorem pdVX4_fail : yX4_fail.cls = RX4 ∧ yX4_fail.cls ≠ "java/lang/invoke/MethodHandle" ∧ yX4_fail.cls ≠ "java/lang/invoke/VarHandle" ∧ (parseMethodDescriptor yX4_fail.desc).map (fun d => d.parameters.length) = some 0 := by decide +kernel
theorem pdVX4_isSound : yX4_isSound.cls = RX4 ∧ yX4_isSound.cls ≠ "java/lang/invoke/MethodHandle" ∧ yX4_isSound.cls ≠ "java/lang/invoke/VarHandle" ∧ (parseMethodDescriptor yX4_isSound.desc).map (fun d => d.parameters.length) = some 0 := by decide +kernel
theorem pdVX4_isWord : yX4_isWord.cls = RX4 ∧ yX4_isWord.cls ≠ "java/lang/invoke/MethodHandle" ∧ yX4_isWord.cls ≠ "java/lang/invoke/VarHandle" ∧ (parseMethodDescriptor yX4_isWord.desc).map (fun d => d.parameters.length) = some 1 := by decide +kernel
theorem pdVX4_numberHere : yX4_numberHere.cls = RX4 ∧ yX4_numberHere.cls ≠ "java/lang/invoke/MethodHandle" ∧ yX4_numberHere.cls ≠ "java/lang/invoke/VarHandle" ∧ (parseMethodDescriptor yX4_numberHere.desc).map (fun d => d.parameters.length) = some 0 := by decide +kernel
theorem dX4_advance_0 : decode cX4_advance 0 = .ok (.aload_n 0, 1) := by decide +kernel
theorem dX4_advance_1 : decode cX4_advance 1 = .ok (.aload_n 0, 1) := by decide +kernel
theorem dX4_advance_2 : decode cX4_advance 2 = .ok (.getfield 22, 3) := by decide +kernel
theorem dX4_advance_5 : decode cX4_advance 5 = .ok (.putfield 28, 3) := by decide +kernel
theorem dX4_advance_8 : decode cX4_advance 8 = .ok (.aload_n 0, 1) := by decide +kernel
theorem dX4_advance_9 : decode cX4_advance 9 = .ok (.getfield 28, 3) := by decide +kernel
theorem dX4_advance_12 : decode cX4_advance 12 = .ok (.aload_n 0, 1) := by decide +kernel
theorem dX4_advance_13 : decode cX4_advance 13 = .ok (.getfield 15, 3) := by decide +kernel
theorem dX4_advance_16 : decode cX4_advance 16 = .ok (.if_icmp .ge 30, 3) := by decide +kernel
theorem dX4_advance_19 : decode cX4_advance 19 = .ok (.aload_n 0, 1) := by decide +kernel
theorem dX4_advance_20 : decode cX4_advance 20 = .ok (.getfield 9, 3) := by decide +kernel
theorem dX4_advance_23 : decode cX4_advance 23 = .ok (.aload_n 0, 1) := by decide +kernel
theorem dX4_advance_24 : decode cX4_advance 24 = .ok (.getfield 28, 3) := by decide +kernel
theorem dX4_advance_27 : decode cX4_advance 27 = .ok (.iaload, 1) := by decide +kernel
theorem dX4_advance_28 : decode cX4_advance 28 = .ok (.bipush 32, 2) := by decide +kernel
theorem dX4_advance_30 : decode cX4_advance 30 = .ok (.if_icmp .ne 16, 3) := by decide +kernel
theorem dX4_advance_33 : decode cX4_advance 33 = .ok (.aload_n 0, 1) := by decide +kernel
theorem dX4_advance_34 : decode cX4_advance 34 = .ok (.dup, 1) := by decide +kernel
theorem dX4_advance_35 : decode cX4_advance 35 = .ok (.getfield 28, 3) := by decide +kernel
theorem dX4_advance_38 : decode cX4_advance 38 = .ok (.iconst 1, 1) := by decide +kernel
theorem dX4_advance_39 : decode cX4_advance 39 = .ok (.iadd, 1) := by decide +kernel
theorem dX4_advance_40 : decode cX4_advance 40 = .ok (.putfield 28, 3) := by decide +kernel
theorem dX4_advance_43 : decode cX4_advance 43 = .ok (.goto (-35), 3) := by decide +kernel
theorem dX4_advance_46 : decode cX4_advance 46 = .ok (.aload_n 0, 1) := by decide +kernel
theorem dX4_advance_47 : decode cX4_advance 47 = .ok (.aload_n 0, 1) := by decide +kernel
theorem dX4_advance_48 : decode cX4_advance 48 = .ok (.getfield 28, 3) := by decide +kernel
theorem dX4_advance_51 : decode cX4_advance 51 = .ok (.putfield 22, 3) := by decide +kernel
theorem dX4_advance_54 : decode cX4_advance 54 = .ok (.aload_n 0, 1) := by decide +kernel
theorem dX4_advance_55 : decode cX4_advance 55 = .ok (.getfield 22, 3) := by decide +kernel
theorem dX4_advance_58 : decode cX4_advance 58 = .ok (.aload_n 0, 1) := by decide +kernel
theorem dX4_advance_59 : decode cX4_advance 59 = .ok (.getfield 15, 3) := by decide +kernel
theorem dX4_advance_62 : decode cX4_advance 62 = .ok (.if_icmp .ge 44, 3) := by decide +kernel
theorem dX4_advance_65 : decode cX4_advance 65 = .ok (.aload_n 0, 1) := by decide +kernel
theorem dX4_advance_66 : decode cX4_advance 66 = .ok (.getfield 9, 3) := by decide +kernel
theorem dX4_advance_69 : decode cX4_advance 69 = .ok (.aload_n 0, 1) := by decide +kernel
theorem dX4_advance_70 : decode cX4_advance 70 = .ok (.getfield 22, 3) := by decide +kernel
theorem dX4_advance_73 : decode cX4_advance 73 = .ok (.iaload, 1) := by decide +kernel
theorem dX4_advance_74 : decode cX4_advance 74 = .ok (.bipush 97, 2) := by decide +kernel
theorem dX4_advance_76 : decode cX4_advance 76 = .ok (.if_icmp .lt 30, 3) := by decide +kernel
theorem dX4_advance_79 : decode cX4_advance 79 = .ok (.aload_n 0, 1) := by decide +kernel
theorem dX4_advance_80 : decode cX4_advance 80 = .ok (.getfield 9, 3) := by decide +kernel
theorem dX4_advance_83 : decode cX4_advance 83 = .ok (.aload_n 0, 1) := by decide +kernel
theorem dX4_advance_84 : decode cX4_advance 84 = .ok (.getfield 22, 3) := by decide +kernel
theorem dX4_advance_87 : decode cX4_advance 87 = .ok (.iaload, 1) := by decide +kernel
theorem dX4_advance_88 : decode cX4_advance 88 = .ok (.bipush 122, 2) := by decide +kernel
theorem dX4_advance_90 : decode cX4_advance 90 = .ok (.if_icmp .gt 16, 3) := by decide +kernel
theorem dX4_advance_93 : decode cX4_advance 93 = .ok (.aload_n 0, 1) := by decide +kernel
theorem dX4_advance_94 : decode cX4_advance 94 = .ok (.dup, 1) := by decide +kernel
theorem dX4_advance_95 : decode cX4_advance 95 = .ok (.getfield 22, 3) := by decide +kernel
theorem dX4_advance_98 : decode cX4_advance 98 = .ok (.iconst 1, 1) := by decide +kernel
theorem dX4_advance_99 : decode cX4_advance 99 = .ok (.iadd, 1) := by decide +kernel
theorem dX4_advance_100 : decode cX4_advance 100 = .ok (.putfield 22, 3) := by decide +kernel
theorem dX4_advance_103 : decode cX4_advance 103 = .ok (.goto (-49), 3) := by decide +kernel
theorem dX4_advance_106 : decode cX4_advance 106 = .ok (.aload_n 0, 1) := by decide +kernel
theorem dX4_advance_107 : decode cX4_advance 107 = .ok (.getfield 22, 3) := by decide +kernel
theorem dX4_advance_110 : decode cX4_advance 110 = .ok (.aload_n 0, 1) := by decide +kernel
theorem dX4_advance_111 : decode cX4_advance 111 = .ok (.getfield 28, 3) := by decide +kernel
theorem dX4_advance_114 : decode cX4_advance 114 = .ok (.if_icmp .le 9, 3) := by decide +kernel
theorem dX4_advance_117 : decode cX4_advance 117 = .ok (.aload_n 0, 1) := by decide +kernel
theorem dX4_advance_118 : decode cX4_advance 118 = .ok (.iconst 1, 1) := by decide +kernel
theorem dX4_advance_119 : decode cX4_advance 119 = .ok (.putfield 31, 3) := by decide +kernel
theorem dX4_advance_122 : decode cX4_advance 122 = .ok (.return_, 1) := by decide +kernel
theorem dX4_advance_123 : decode cX4_advance 123 = .ok (.aload_n 0, 1) := by decide +kernel
theorem dX4_advance_124 : decode cX4_advance 124 = .ok (.getfield 22, 3) := by decide +kernel
theorem dX4_advance_127 : decode cX4_advance 127 = .ok (.aload_n 0, 1) := by decide +kernel
theorem dX4_advance_128 : decode cX4_advance 128 = .ok (.getfield 15, 3) := by decide +kernel
theorem dX4_advance_131 : decode cX4_advance 131 = .ok (.if_icmp .ge 44, 3) := by decide +kernel
theorem dX4_advance_134 : decode cX4_advance 134 = .ok (.aload_n 0, 1) := by decide +kernel
theorem dX4_advance_135 : decode cX4_advance 135 = .ok (.getfield 9, 3) := by decide +kernel
theorem dX4_advance_138 : decode cX4_advance 138 = .ok (.aload_n 0, 1) := by decide +kernel
theorem dX4_advance_139 : decode cX4_advance 139 = .ok (.getfield 22, 3) := by decide +kernel
theorem dX4_advance_142 : decode cX4_advance 142 = .ok (.iaload, 1) := by decide +kernel
theorem dX4_advance_143 : decode cX4_advance 143 = .ok (.bipush 48, 2) := by decide +kernel
theorem dX4_advance_145 : decode cX4_advance 145 = .ok (.if_icmp .lt 30, 3) := by decide +kernel
theorem dX4_advance_148 : decode cX4_advance 148 = .ok (.aload_n 0, 1) := by decide +kernel
theorem dX4_advance_149 : decode cX4_advance 149 = .ok (.getfield 9, 3) := by decide +kernel
theorem dX4_advance_152 : decode cX4_advance 152 = .ok (.aload_n 0, 1) := by decide +kernel
theorem dX4_advance_153 : decode cX4_advance 153 = .ok (.getfield 22, 3) := by decide +kernel
theorem dX4_advance_156 : decode cX4_advance 156 = .ok (.iaload, 1) := by decide +kernel
theorem dX4_advance_157 : decode cX4_advance 157 = .ok (.bipush 57, 2) := by decide +kernel
theorem dX4_advance_159 : decode cX4_advance 159 = .ok (.if_icmp .gt 16, 3) := by decide +kernel
theorem dX4_advance_162 : decode cX4_advance 162 = .ok (.aload_n 0, 1) := by decide +kernel
theorem dX4_advance_163 : decode cX4_advance 163 = .ok (.dup, 1) := by decide +kernel
theorem dX4_advance_164 : decode cX4_advance 164 = .ok (.getfield 22, 3) := by decide +kernel
theorem dX4_advance_167 : decode cX4_advance 167 = .ok (.iconst 1, 1) := by decide +kernel
theorem dX4_advance_168 : decode cX4_advance 168 = .ok (.iadd, 1) := by decide +kernel
theorem dX4_advance_169 : decode cX4_advance 169 = .ok (.putfield 22, 3) := by decide +kernel
theorem dX4_advance_172 : decode cX4_advance 172 = .ok (.goto (-49), 3) := by decide +kernel
theorem dX4_advance_175 : decode cX4_advance 175 = .ok (.aload_n 0, 1) := by decide +kernel
theorem dX4_advance_176 : decode cX4_advance 176 = .ok (.getfield 22, 3) := by decide +kernel
theorem dX4_advance_179 : decode cX4_advance 179 = .ok (.aload_n 0, 1) := by decide +kernel
theorem dX4_advance_180 : decode cX4_advance 180 = .ok (.getfield 28, 3) := by decide +kernel
theorem dX4_advance_183 : decode cX4_advance 183 = .ok (.if_icmp .le 9, 3) := by decide +kernel
theorem dX4_advance_186 : decode cX4_advance 186 = .ok (.aload_n 0, 1) := by decide +kernel
theorem dX4_advance_187 : decode cX4_advance 187 = .ok (.iconst 2, 1) := by decide +kernel
theorem dX4_advance_188 : decode cX4_advance 188 = .ok (.putfield 31, 3) := by decide +kernel
theorem dX4_advance_191 : decode cX4_advance 191 = .ok (.return_, 1) := by decide +kernel
theorem dX4_advance_192 : decode cX4_advance 192 = .ok (.aload_n 0, 1) := by decide +kernel
theorem dX4_advance_193 : decode cX4_advance 193 = .ok (.getfield 28, 3) := by decide +kernel
theorem dX4_advance_196 : decode cX4_advance 196 = .ok (.aload_n 0, 1) := by decide +kernel
theorem dX4_advance_197 : decode cX4_advance 197 = .ok (.getfield 15, 3) := by decide +kernel
theorem dX4_advance_200 : decode cX4_advance 200 = .ok (.if_icmp .lt 9, 3) := by decide +kernel
theorem dX4_advance_203 : decode cX4_advance 203 = .ok (.aload_n 0, 1) := by decide +kernel
theorem dX4_advance_204 : decode cX4_advance 204 = .ok (.iconst 0, 1) := by decide +kernel
theorem dX4_advance_205 : decode cX4_advance 205 = .ok (.putfield 31, 3) := by decide +kernel
theorem dX4_advance_208 : decode cX4_advance 208 = .ok (.return_, 1) := by decide +kernel
theorem dX4_advance_209 : decode cX4_advance 209 = .ok (.aload_n 0, 1) := by decide +kernel
theorem dX4_advance_210 : decode cX4_advance 210 = .ok (.aload_n 0, 1) := by decide +kernel
theorem dX4_advance_211 : decode cX4_advance 211 = .ok (.getfield 9, 3) := by decide +kernel
theorem dX4_advance_214 : decode cX4_advance 214 = .ok (.aload_n 0, 1) := by decide +kernel
theorem dX4_advance_215 : decode cX4_advance 215 = .ok (.getfield 28, 3) := by decide +kernel
theorem dX4_advance_218 : decode cX4_advance 218 = .ok (.iaload, 1) := by decide +kernel
theorem dX4_advance_219 : decode cX4_advance 219 = .ok (.bipush 59, 2) := by decide +kernel
theorem dX4_advance_221 : decode cX4_advance 221 = .ok (.if_icmp .ne 7, 3) := by decide +kernel
theorem dX4_advance_224 : decode cX4_advance 224 = .ok (.iconst 3, 1) := by decide +kernel
theorem dX4_advance_225 : decode cX4_advance 225 = .ok (.goto 4, 3) := by decide +kernel
theorem dX4_advance_228 : decode cX4_advance 228 = .ok (.iconst 4, 1) := by decide +kernel
theorem dX4_advance_229 : decode cX4_advance 229 = .ok (.putfield 31, 3) := by decide +kernel
theorem dX4_advance_232 : decode cX4_advance 232 = .ok (.aload_n 0, 1) := by decide +kernel
theorem dX4_advance_233 : decode cX4_advance 233 = .ok (.aload_n 0, 1) := by decide +kernel
theorem dX4_advance_234 : decode cX4_advance 234 = .ok (.getfield 28, 3) := by decide +kernel
theorem dX4_advance_237 : decode cX4_advance 237 = .ok (.iconst 1, 1) := by decide +kernel
theorem dX4_advance_238 : decode cX4_advance 238 = .ok (.iadd, 1) := by decide +kernel
theorem dX4_advance_239 : decode cX4_advance 239 = .ok (.putfield 22, 3) := by decide +kernel
theorem dX4_advance_242 : decode cX4_advance 242 = .ok (.return_, 1) := by decide +kernel
theorem dX4_append_0 : decode cX4_append 0 = .ok (.iload_n 2, 1) := by decide +kernel
theorem dX4_append_1 : decode cX4_append 1 = .ok (.iconst 1, 1) := by decide +kernel
theorem dX4_append_2 : decode cX4_append 2 = .ok (.isub, 1) := by decide +kernel
theorem dX4_append_3 : decode cX4_append 3 = .ok (.istore_n 3, 1) := by decide +kernel
theorem dX4_append_4 : decode cX4_append 4 = .ok (.iload_n 3, 1) := by decide +kernel
theorem dX4_append_5 : decode cX4_append 5 = .ok (.ifCond .lt 38, 3) := by decide +kernel
theorem dX4_append_8 : decode cX4_append 8 = .ok (.aload_n 0, 1) := by decide +kernel
theorem dX4_append_9 : decode cX4_append 9 = .ok (.getfield 9, 3) := by decide +kernel
theorem dX4_append_12 : decode cX4_append 12 = .ok (.aload_n 0, 1) := by decide +kernel
theorem dX4_append_13 : decode cX4_append 13 = .ok (.getfield 15, 3) := by decide +kernel
theorem dX4_append_16 : decode cX4_append 16 = .ok (.iload_n 1, 1) := by decide +kernel
theorem dX4_append_17 : decode cX4_append 17 = .ok (.bipush 8, 2) := by decide +kernel
theorem dX4_append_19 : decode cX4_append 19 = .ok (.iload_n 3, 1) := by decide +kernel
theorem dX4_append_20 : decode cX4_append 20 = .ok (.imul, 1) := by decide +kernel
theorem dX4_append_21 : decode cX4_append 21 = .ok (.ishr, 1) := by decide +kernel
theorem dX4_append_22 : decode cX4_append 22 = .ok (.sipush 255, 3) := by decide +kernel
theorem dX4_append_25 : decode cX4_append 25 = .ok (.iand, 1) := by decide +kernel
theorem dX4_append_26 : decode cX4_append 26 = .ok (.iastore, 1) := by decide +kernel
theorem dX4_append_27 : decode cX4_append 27 = .ok (.aload_n 0, 1) := by decide +kernel
theorem dX4_append_28 : decode cX4_append 28 = .ok (.dup, 1) := by decide +kernel
theorem dX4_append_29 : decode cX4_append 29 = .ok (.getfield 15, 3) := by decide +kernel
theorem dX4_append_32 : decode cX4_append 32 = .ok (.iconst 1, 1) := by decide +kernel
theorem dX4_append_33 : decode cX4_append 33 = .ok (.iadd, 1) := by decide +kernel
theorem dX4_append_34 : decode cX4_append 34 = .ok (.putfield 15, 3) := by decide +kernel
theorem dX4_append_37 : decode cX4_append 37 = .ok (.iinc 3 (-1), 3) := by decide +kernel
theorem dX4_append_40 : decode cX4_append 40 = .ok (.goto (-36), 3) := by decide +kernel
theorem dX4_append_43 : decode cX4_append 43 = .ok (.return_, 1) := by decide +kernel
theorem dX4_fail_0 : decode cX4_fail 0 = .ok (.aload_n 0, 1) := by decide +kernel
theorem dX4_fail_1 : decode cX4_fail 1 = .ok (.getfield 19, 3) := by decide +kernel
theorem dX4_fail_4 : decode cX4_fail 4 = .ok (.iconst (-1), 1) := by decide +kernel
theorem dX4_fail_5 : decode cX4_fail 5 = .ok (.if_icmp .ne 11, 3) := by decide +kernel
theorem dX4_fail_8 : decode cX4_fail 8 = .ok (.aload_n 0, 1) := by decide +kernel
theorem dX4_fail_9 : decode cX4_fail 9 = .ok (.aload_n 0, 1) := by decide +kernel
theorem dX4_fail_10 : decode cX4_fail 10 = .ok (.getfield 28, 3) := by decide +kernel
theorem dX4_fail_13 : decode cX4_fail 13 = .ok (.putfield 19, 3) := by decide +kernel
theorem dX4_fail_16 : decode cX4_fail 16 = .ok (.return_, 1) := by decide +kernel
theorem dX4_isEnd_0 : decode cX4_isEnd 0 = .ok (.aload_n 0, 1) := by decide +kernel
theorem dX4_isEnd_1 : decode cX4_isEnd 1 = .ok (.getfield 31, 3) := by decide +kernel
theorem dX4_isEnd_4 : decode cX4_isEnd 4 = .ok (.ifCond .ne 7, 3) := by decide +kernel
theorem dX4_isEnd_7 : decode cX4_isEnd 7 = .ok (.iconst 1, 1) := by decide +kernel
theorem dX4_isEnd_8 : decode cX4_isEnd 8 = .ok (.goto 4, 3) := by decide +kernel
theorem dX4_isEnd_11 : decode cX4_isEnd 11 = .ok (.iconst 0, 1) := by decide +kernel
theorem dX4_isEnd_12 : decode cX4_isEnd 12 = .ok (.ireturn, 1) := by decide +kernel
theorem dX4_isSound_0 : decode cX4_isSound 0 = .ok (.aload_n 0, 1) := by decide +kernel
theorem dX4_isSound_1 : decode cX4_isSound 1 = .ok (.getfield 19, 3) := by decide +kernel
theorem dX4_isSound_4 : decode cX4_isSound 4 = .ok (.iconst (-1), 1) := by decide +kernel
theorem dX4_isSound_5 : decode cX4_isSound 5 = .ok (.if_icmp .ne 7, 3) := by decide +kernel
theorem dX4_isSound_8 : decode cX4_isSound 8 = .ok (.iconst 1, 1) := by decide +kernel
theorem dX4_isSound_9 : decode cX4_isSound 9 = .ok (.goto 4, 3) := by decide +kernel
theorem dX4_isSound_12 : decode cX4_isSound 12 = .ok (.iconst 0, 1) := by decide +kernel
theorem dX4_isSound_13 : decode cX4_isSound 13 = .ok (.ireturn, 1) := by decide +kernel
theorem dX4_isWord_0 : decode cX4_isWord 0 = .ok (.aload_n 0, 1) := by decide +kernel
theorem dX4_isWord_1 : decode cX4_isWord 1 = .ok (.getfield 19, 3) := by decide +kernel
theorem dX4_isWord_4 : decode cX4_isWord 4 = .ok (.iconst (-1), 1) := by decide +kernel
theorem dX4_isWord_5 : decode cX4_isWord 5 = .ok (.if_icmp .ne 27, 3) := by decide +kernel
theorem dX4_isWord_8 : decode cX4_isWord 8 = .ok (.aload_n 0, 1) := by decide +kernel
theorem dX4_isWord_9 : decode cX4_isWord 9 = .ok (.getfield 31, 3) := by decide +kernel
theorem dX4_isWord_12 : decode cX4_isWord 12 = .ok (.iconst 1, 1) := by decide +kernel
theorem dX4_isWord_13 : decode cX4_isWord 13 = .ok (.if_icmp .ne 19, 3) := by decide +kernel
theorem dX4_isWord_16 : decode cX4_isWord 16 = .ok (.aload_n 0, 1) := by decide +kernel
theorem dX4_isWord_17 : decode cX4_isWord 17 = .ok (.getfield 22, 3) := by decide +kernel
theorem dX4_isWord_20 : decode cX4_isWord 20 = .ok (.aload_n 0, 1) := by decide +kernel
theorem dX4_isWord_21 : decode cX4_isWord 21 = .ok (.getfield 28, 3) := by decide +kernel
theorem dX4_isWord_24 : decode cX4_isWord 24 = .ok (.isub, 1) := by decide +kernel
theorem dX4_isWord_25 : decode cX4_isWord 25 = .ok (.aload_n 1, 1) := by decide +kernel
theorem dX4_isWord_26 : decode cX4_isWord 26 = .ok (.invokevirtual 34, 3) := by decide +kernel
theorem dX4_isWord_29 : decode cX4_isWord 29 = .ok (.if_icmp .eq 5, 3) := by decide +kernel
theorem dX4_isWord_32 : decode cX4_isWord 32 = .ok (.iconst 0, 1) := by decide +kernel
theorem dX4_isWord_33 : decode cX4_isWord 33 = .ok (.ireturn, 1) := by decide +kernel
theorem dX4_isWord_34 : decode cX4_isWord 34 = .ok (.iconst 0, 1) := by decide +kernel
theorem dX4_isWord_35 : decode cX4_isWord 35 = .ok (.istore_n 2, 1) := by decide +kernel
theorem dX4_isWord_36 : decode cX4_isWord 36 = .ok (.iload_n 2, 1) := by decide +kernel
theorem dX4_isWord_37 : decode cX4_isWord 37 = .ok (.aload_n 1, 1) := by decide +kernel
theorem dX4_isWord_38 : decode cX4_isWord 38 = .ok (.invokevirtual 34, 3) := by decide +kernel
theorem dX4_isWord_41 : decode cX4_isWord 41 = .ok (.if_icmp .ge 30, 3) := by decide +kernel
theorem dX4_isWord_44 : decode cX4_isWord 44 = .ok (.aload_n 0, 1) := by decide +kernel
theorem dX4_isWord_45 : decode cX4_isWord 45 = .ok (.getfield 9, 3) := by decide +kernel
theorem dX4_isWord_48 : decode cX4_isWord 48 = .ok (.aload_n 0, 1) := by decide +kernel
theorem dX4_isWord_49 : decode cX4_isWord 49 = .ok (.getfield 28, 3) := by decide +kernel
theorem dX4_isWord_52 : decode cX4_isWord 52 = .ok (.iload_n 2, 1) := by decide +kernel
theorem dX4_isWord_53 : decode cX4_isWord 53 = .ok (.iadd, 1) := by decide +kernel
theorem dX4_isWord_54 : decode cX4_isWord 54 = .ok (.iaload, 1) := by decide +kernel
theorem dX4_isWord_55 : decode cX4_isWord 55 = .ok (.aload_n 1, 1) := by decide +kernel
theorem dX4_isWord_56 : decode cX4_isWord 56 = .ok (.iload_n 2, 1) := by decide +kernel
theorem dX4_isWord_57 : decode cX4_isWord 57 = .ok (.invokevirtual 40, 3) := by decide +kernel
theorem dX4_isWord_60 : decode cX4_isWord 60 = .ok (.if_icmp .eq 5, 3) := by decide +kernel
theorem dX4_isWord_63 : decode cX4_isWord 63 = .ok (.iconst 0, 1) := by decide +kernel
theorem dX4_isWord_64 : decode cX4_isWord 64 = .ok (.ireturn, 1) := by decide +kernel
theorem dX4_isWord_65 : decode cX4_isWord 65 = .ok (.iinc 2 1, 3) := by decide +kernel
theorem dX4_isWord_68 : decode cX4_isWord 68 = .ok (.goto (-32), 3) := by decide +kernel
theorem dX4_isWord_71 : decode cX4_isWord 71 = .ok (.iconst 1, 1) := by decide +kernel
theorem dX4_isWord_72 : decode cX4_isWord 72 = .ok (.ireturn, 1) := by decide +kernel
theorem dX4_numberHere_0 : decode cX4_numberHere 0 = .ok (.aload_n 0, 1) := by decide +kernel
theorem dX4_numberHere_1 : decode cX4_numberHere 1 = .ok (.getfield 31, 3) := by decide +kernel
theorem dX4_numberHere_4 : decode cX4_numberHere 4 = .ok (.iconst 2, 1) := by decide +kernel
theorem dX4_numberHere_5 : decode cX4_numberHere 5 = .ok (.if_icmp .ne 16, 3) := by decide +kernel
theorem dX4_numberHere_8 : decode cX4_numberHere 8 = .ok (.aload_n 0, 1) := by decide +kernel
theorem dX4_numberHere_9 : decode cX4_numberHere 9 = .ok (.getfield 22, 3) := by decide +kernel
theorem dX4_numberHere_12 : decode cX4_numberHere 12 = .ok (.aload_n 0, 1) := by decide +kernel
theorem dX4_numberHere_13 : decode cX4_numberHere 13 = .ok (.getfield 28, 3) := by decide +kernel
theorem dX4_numberHere_16 : decode cX4_numberHere 16 = .ok (.isub, 1) := by decide +kernel
theorem dX4_numberHere_17 : decode cX4_numberHere 17 = .ok (.iconst 3, 1) := by decide +kernel
theorem dX4_numberHere_18 : decode cX4_numberHere 18 = .ok (.if_icmp .le 5, 3) := by decide +kernel
theorem dX4_numberHere_21 : decode cX4_numberHere 21 = .ok (.iconst (-1), 1) := by decide +kernel
theorem dX4_numberHere_22 : decode cX4_numberHere 22 = .ok (.ireturn, 1) := by decide +kernel
theorem dX4_numberHere_23 : decode cX4_numberHere 23 = .ok (.iconst 0, 1) := by decide +kernel
theorem dX4_numberHere_24 : decode cX4_numberHere 24 = .ok (.istore_n 1, 1) := by decide +kernel
theorem dX4_numberHere_25 : decode cX4_numberHere 25 = .ok (.aload_n 0, 1) := by decide +kernel
theorem dX4_numberHere_26 : decode cX4_numberHere 26 = .ok (.getfield 28, 3) := by decide +kernel
theorem dX4_numberHere_29 : decode cX4_numberHere 29 = .ok (.istore_n 2, 1) := by decide +kernel
theorem dX4_numberHere_30 : decode cX4_numberHere 30 = .ok (.iload_n 2, 1) := by decide +kernel
theorem dX4_numberHere_31 : decode cX4_numberHere 31 = .ok (.aload_n 0, 1) := by decide +kernel
theorem dX4_numberHere_32 : decode cX4_numberHere 32 = .ok (.getfield 22, 3) := by decide +kernel
theorem dX4_numberHere_35 : decode cX4_numberHere 35 = .ok (.if_icmp .ge 24, 3) := by decide +kernel
theorem dX4_numberHere_38 : decode cX4_numberHere 38 = .ok (.iload_n 1, 1) := by decide +kernel
theorem dX4_numberHere_39 : decode cX4_numberHere 39 = .ok (.bipush 10, 2) := by decide +kernel
theorem dX4_numberHere_41 : decode cX4_numberHere 41 = .ok (.imul, 1) := by decide +kernel
theorem dX4_numberHere_42 : decode cX4_numberHere 42 = .ok (.aload_n 0, 1) := by decide +kernel
theorem dX4_numberHere_43 : decode cX4_numberHere 43 = .ok (.getfield 9, 3) := by decide +kernel
theorem dX4_numberHere_46 : decode cX4_numberHere 46 = .ok (.iload_n 2, 1) := by decide +kernel
theorem dX4_numberHere_47 : decode cX4_numberHere 47 = .ok (.iaload, 1) := by decide +kernel
theorem dX4_numberHere_48 : decode cX4_numberHere 48 = .ok (.iadd, 1) := by decide +kernel
theorem dX4_numberHere_49 : decode cX4_numberHere 49 = .ok (.bipush 48, 2) := by decide +kernel
theorem dX4_numberHere_51 : decode cX4_numberHere 51 = .ok (.isub, 1) := by decide +kernel
theorem dX4_numberHere_52 : decode cX4_numberHere 52 = .ok (.istore_n 1, 1) := by decide +kernel
theorem dX4_numberHere_53 : decode cX4_numberHere 53 = .ok (.iinc 2 1, 3) := by decide +kernel
theorem dX4_numberHere_56 : decode cX4_numberHere 56 = .ok (.goto (-26), 3) := by decide +kernel
theorem dX4_numberHere_59 : decode cX4_numberHere 59 = .ok (.iload_n 1, 1) := by decide +kernel
theorem dX4_numberHere_60 : decode cX4_numberHere 60 = .ok (.ireturn, 1) := by decide +kernel
theorem dX4_rewind_0 : decode cX4_rewind 0 = .ok (.aload_n 0, 1) := by decide +kernel
theorem dX4_rewind_1 : decode cX4_rewind 1 = .ok (.iconst (-1), 1) := by decide +kernel
theorem dX4_rewind_2 : decode cX4_rewind 2 = .ok (.putfield 19, 3) := by decide +kernel
theorem dX4_rewind_5 : decode cX4_rewind 5 = .ok (.aload_n 0, 1) := by decide +kernel
theorem dX4_rewind_6 : decode cX4_rewind 6 = .ok (.iconst 0, 1) := by decide +kernel
theorem dX4_rewind_7 : decode cX4_rewind 7 = .ok (.putfield 22, 3) := by decide +kernel
theorem dX4_rewind_10 : decode cX4_rewind 10 = .ok (.aload_n 0, 1) := by decide +kernel
theorem dX4_rewind_11 : decode cX4_rewind 11 = .ok (.invokevirtual 25, 3) := by decide +kernel
theorem dX4_rewind_14 : decode cX4_rewind 14 = .ok (.return_, 1) := by decide +kernel
theorem dX4_takeNumber_0 : decode cX4_takeNumber 0 = .ok (.aload_n 0, 1) := by decide +kernel
theorem dX4_takeNumber_1 : decode cX4_takeNumber 1 = .ok (.invokevirtual 51, 3) := by decide +kernel
theorem dX4_takeNumber_4 : decode cX4_takeNumber 4 = .ok (.istore_n 3, 1) := by decide +kernel
theorem dX4_takeNumber_5 : decode cX4_takeNumber 5 = .ok (.aload_n 0, 1) := by decide +kernel
theorem dX4_takeNumber_6 : decode cX4_takeNumber 6 = .ok (.invokevirtual 54, 3) := by decide +kernel
theorem dX4_takeNumber_9 : decode cX4_takeNumber 9 = .ok (.ifCond .eq 12, 3) := by decide +kernel
theorem dX4_takeNumber_12 : decode cX4_takeNumber 12 = .ok (.iload_n 3, 1) := by decide +kernel
theorem dX4_takeNumber_13 : decode cX4_takeNumber 13 = .ok (.iload_n 1, 1) := by decide +kernel
theorem dX4_takeNumber_14 : decode cX4_takeNumber 14 = .ok (.iload_n 2, 1) := by decide +kernel
theorem dX4_takeNumber_15 : decode cX4_takeNumber 15 = .ok (.invokestatic 58, 3) := by decide +kernel
theorem dX4_takeNumber_18 : decode cX4_takeNumber 18 = .ok (.ifCond .ne 9, 3) := by decide +kernel
theorem dX4_takeNumber_21 : decode cX4_takeNumber 21 = .ok (.aload_n 0, 1) := by decide +kernel
theorem dX4_takeNumber_22 : decode cX4_takeNumber 22 = .ok (.invokevirtual 44, 3) := by decide +kernel
theorem dX4_takeNumber_25 : decode cX4_takeNumber 25 = .ok (.iconst (-1), 1) := by decide +kernel
theorem dX4_takeNumber_26 : decode cX4_takeNumber 26 = .ok (.ireturn, 1) := by decide +kernel
theorem dX4_takeNumber_27 : decode cX4_takeNumber 27 = .ok (.aload_n 0, 1) := by decide +kernel
theorem dX4_takeNumber_28 : decode cX4_takeNumber 28 = .ok (.invokevirtual 25, 3) := by decide +kernel
theorem dX4_takeNumber_31 : decode cX4_takeNumber 31 = .ok (.iload_n 3, 1) := by decide +kernel
theorem dX4_takeNumber_32 : decode cX4_takeNumber 32 = .ok (.ireturn, 1) := by decide +kernel
theorem dX4_takeSign_0 : decode cX4_takeSign 0 = .ok (.aload_n 0, 1) := by decide +kernel
theorem dX4_takeSign_1 : decode cX4_takeSign 1 = .ok (.getfield 31, 3) := by decide +kernel
theorem dX4_takeSign_4 : decode cX4_takeSign 4 = .ok (.iconst 3, 1) := by decide +kernel
theorem dX4_takeSign_5 : decode cX4_takeSign 5 = .ok (.if_icmp .ne 10, 3) := by decide +kernel
theorem dX4_takeSign_8 : decode cX4_takeSign 8 = .ok (.aload_n 0, 1) := by decide +kernel
theorem dX4_takeSign_9 : decode cX4_takeSign 9 = .ok (.invokevirtual 25, 3) := by decide +kernel
theorem dX4_takeSign_12 : decode cX4_takeSign 12 = .ok (.goto 7, 3) := by decide +kernel
theorem dX4_takeSign_15 : decode cX4_takeSign 15 = .ok (.aload_n 0, 1) := by decide +kernel
theorem dX4_takeSign_16 : decode cX4_takeSign 16 = .ok (.invokevirtual 44, 3) := by decide +kernel
theorem dX4_takeSign_19 : decode cX4_takeSign 19 = .ok (.return_, 1) := by decide +kernel
theorem dX4_takeWord_0 : decode cX4_takeWord 0 = .ok (.aload_n 0, 1) := by decide +kernel
theorem dX4_takeWord_1 : decode cX4_takeWord 1 = .ok (.aload_n 1, 1) := by decide +kernel
theorem dX4_takeWord_2 : decode cX4_takeWord 2 = .ok (.invokevirtual 47, 3) := by decide +kernel
theorem dX4_takeWord_5 : decode cX4_takeWord 5 = .ok (.ifCond .eq 10, 3) := by decide +kernel
theorem dX4_takeWord_8 : decode cX4_takeWord 8 = .ok (.aload_n 0, 1) := by decide +kernel
theorem dX4_takeWord_9 : decode cX4_takeWord 9 = .ok (.invokevirtual 25, 3) := by decide +kernel
theorem dX4_takeWord_12 : decode cX4_takeWord 12 = .ok (.goto 7, 3) := by decide +kernel
theorem dX4_takeWord_15 : decode cX4_takeWord 15 = .ok (.aload_n 0, 1) := by decide +kernel
theorem dX4_takeWord_16 : decode cX4_takeWord 16 = .ok (.invokevirtual 44, 3) := by decide +kernel
theorem dX4_takeWord_19 : decode cX4_takeWord 19 = .ok (.return_, 1) := by decide +kernel
theorem dX4_takeWordIfThere_0 : decode cX4_takeWordIfThere 0 = .ok (.aload_n 0, 1) := by decide +kernel
theorem dX4_takeWordIfThere_1 : decode cX4_takeWordIfThere 1 = .ok (.aload_n 1, 1) := by decide +kernel
theorem dX4_takeWordIfThere_2 : decode cX4_takeWordIfThere 2 = .ok (.invokevirtual 47, 3) := by decide +kernel
theorem dX4_takeWordIfThere_5 : decode cX4_takeWordIfThere 5 = .ok (.istore_n 2, 1) := by decide +kernel
theorem dX4_takeWordIfThere_6 : decode cX4_takeWordIfThere 6 = .ok (.iload_n 2, 1) := by decide +kernel
theorem dX4_takeWordIfThere_7 : decode cX4_takeWordIfThere 7 = .ok (.ifCond .eq 7, 3) := by decide +kernel
theorem dX4_takeWordIfThere_10 : decode cX4_takeWordIfThere 10 = .ok (.aload_n 0, 1) := by decide +kernel
theorem dX4_takeWordIfThere_11 : decode cX4_takeWordIfThere 11 = .ok (.invokevirtual 25, 3) := by decide +kernel
theorem dX4_takeWordIfThere_14 : decode cX4_takeWordIfThere 14 = .ok (.iload_n 2, 1) := by decide +kernel
theorem dX4_takeWordIfThere_15 : decode cX4_takeWordIfThere 15 = .ok (.ireturn, 1) := by decide +kernel

