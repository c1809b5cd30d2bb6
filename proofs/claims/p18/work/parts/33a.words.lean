theorem q_39 : Cond.selects RX7 yX7_look yX7_look ∈ oh_t := oh_of (i := 39) (by decide +kernel) rfl
theorem q_41 : Cond.selects RX7 yX7_isWord yX7_isWord ∈ oh_t := oh_of (i := 41) (by decide +kernel) rfl
theorem q_43 : Cond.selects RX7 yX7_number yX7_number ∈ oh_t := oh_of (i := 43) (by decide +kernel) rfl
theorem q_44 : Cond.selects RX7 yX7_wrong yX7_wrong ∈ oh_t := oh_of (i := 44) (by decide +kernel) rfl
theorem q_45 : Cond.selects RX7 yX7_told yX7_told ∈ oh_t := oh_of (i := 45) (by decide +kernel) rfl
theorem q_979 : Cond.fieldLink RX7 31 "OneHeavyLoadModel" "tape" "[I" ∈ oh_t := oh_of (i := 979) (by decide +kernel) rfl
theorem q_994 : Cond.fieldLink RX7 143 "OneHeavyLoadModel" "at" "I" ∈ oh_t := oh_of (i := 994) (by decide +kernel) rfl
theorem q_995 : Cond.fieldLink RX7 153 "OneHeavyLoadModel" "token" "I" ∈ oh_t := oh_of (i := 995) (by decide +kernel) rfl
theorem q_996 : Cond.fieldLink RX7 146 "OneHeavyLoadModel" "from" "I" ∈ oh_t := oh_of (i := 996) (by decide +kernel) rfl
theorem q_997 : Cond.fieldLink RX7 149 "OneHeavyLoadModel" "figures" "J" ∈ oh_t := oh_of (i := 997) (by decide +kernel) rfl
theorem q_998 : Cond.fieldLink RX7 168 "OneHeavyLoadModel" "fault" "I" ∈ oh_t := oh_of (i := 998) (by decide +kernel) rfl
theorem q_1197 : Cond.methodLink RX7 185 yX7_look ∈ oh_t := oh_of (i := 1197) (by decide +kernel) rfl
theorem q_1199 : Cond.instanceMethod yX7_look ∈ oh_t := oh_of (i := 1199) (by decide +kernel) rfl
theorem q_1200 : Cond.code yX7_look cX7_look 1 none ∈ oh_t := oh_of (i := 1200) (by decide +kernel) rfl
theorem q_1201 : Cond.methodLink RX7 156 yX7_isLetter ∈ oh_t := oh_of (i := 1201) (by decide +kernel) rfl
theorem q_1202 : Cond.static yX7_isLetter ∈ oh_t := oh_of (i := 1202) (by decide +kernel) rfl
theorem q_1203 : Cond.code yX7_isLetter cX7_isLetter 1 (some .boolean) ∈ oh_t := oh_of (i := 1203) (by decide +kernel) rfl
theorem q_1204 : Cond.methodLink RX7 159 yX7_isDigit ∈ oh_t := oh_of (i := 1204) (by decide +kernel) rfl
theorem q_1205 : Cond.static yX7_isDigit ∈ oh_t := oh_of (i := 1205) (by decide +kernel) rfl
theorem q_1206 : Cond.code yX7_isDigit cX7_isDigit 1 (some .boolean) ∈ oh_t := oh_of (i := 1206) (by decide +kernel) rfl
theorem q_1208 : Cond.constantLong RX7 164 48 ∈ oh_t := oh_of (i := 1208) (by decide +kernel) rfl
theorem q_1209 : Cond.constantLong RX7 166 100000 ∈ oh_t := oh_of (i := 1209) (by decide +kernel) rfl
theorem q_1215 : Cond.methodLink RX7 188 yX7_isWord ∈ oh_t := oh_of (i := 1215) (by decide +kernel) rfl
theorem q_1217 : Cond.instanceMethod yX7_isWord ∈ oh_t := oh_of (i := 1217) (by decide +kernel) rfl
theorem q_1218 : Cond.code yX7_isWord cX7_isWord 3 (some .boolean) ∈ oh_t := oh_of (i := 1218) (by decide +kernel) rfl
theorem q_1219 : Cond.methodLink RX7 171 yJ0_length_8abf5 ∈ oh_t := oh_of (i := 1219) (by decide +kernel) rfl
theorem q_1220 : Cond.methodLink RX7 177 yJ0_charAt_5068e ∈ oh_t := oh_of (i := 1220) (by decide +kernel) rfl
theorem q_1225 : Cond.methodLink RX7 192 yX7_number ∈ oh_t := oh_of (i := 1225) (by decide +kernel) rfl
theorem q_1227 : Cond.instanceMethod yX7_number ∈ oh_t := oh_of (i := 1227) (by decide +kernel) rfl
theorem q_1228 : Cond.code yX7_number cX7_number 5 (some .boolean) ∈ oh_t := oh_of (i := 1228) (by decide +kernel) rfl
theorem q_1229 : Cond.methodLink RX7 181 yX7_wrong ∈ oh_t := oh_of (i := 1229) (by decide +kernel) rfl
theorem q_1231 : Cond.instanceMethod yX7_wrong ∈ oh_t := oh_of (i := 1231) (by decide +kernel) rfl
theorem q_1232 : Cond.code yX7_wrong cX7_wrong 1 (some .boolean) ∈ oh_t := oh_of (i := 1232) (by decide +kernel) rfl
theorem q_1234 : Cond.methodLink RX7 196 yX7_told ∈ oh_t := oh_of (i := 1234) (by decide +kernel) rfl
theorem q_1236 : Cond.instanceMethod yX7_told ∈ oh_t := oh_of (i := 1236) (by decide +kernel) rfl
theorem q_1237 : Cond.code yX7_told cX7_told 6 (some .boolean) ∈ oh_t := oh_of (i := 1237) (by decide +kernel) rfl
theorem pdX7_isDigit : yX7_isDigit.cls ≠ "java/lang/invoke/MethodHandle" ∧ yX7_isDigit.cls ≠ "java/lang/invoke/VarHandle" ∧ (parseMethodDescriptor yX7_isDigit.desc).map (fun d => d.parameters.length) = some 1 := by decide +kernel
theorem pdX7_isLetter : yX7_isLetter.cls ≠ "java/lang/invoke/MethodHandle" ∧ yX7_isLetter.cls ≠ "java/lang/invoke/VarHandle" ∧ (parseMethodDescriptor yX7_isLetter.desc).map (fun d => d.parameters.length) = some 1 := by decide +kernel
theorem pdVX7_isWord : yX7_isWord.cls = RX7 ∧ yX7_isWord.cls ≠ "java/lang/invoke/MethodHandle" ∧ yX7_isWord.cls ≠ "java/lang/invoke/VarHandle" ∧ (parseMethodDescriptor yX7_isWord.desc).map (fun d => d.parameters.length) = some 1 := by decide +kernel
theorem pdVX7_look : yX7_look.cls = RX7 ∧ yX7_look.cls ≠ "java/lang/invoke/MethodHandle" ∧ yX7_look.cls ≠ "java/lang/invoke/VarHandle" ∧ (parseMethodDescriptor yX7_look.desc).map (fun d => d.parameters.length) = some 0 := by decide +kernel
theorem pdVX7_number : yX7_number.cls = RX7 ∧ yX7_number.cls ≠ "java/lang/invoke/MethodHandle" ∧ yX7_number.cls ≠ "java/lang/invoke/VarHandle" ∧ (parseMethodDescriptor yX7_number.desc).map (fun d => d.parameters.length) = some 4 := by decide +kernel
theorem pdVX7_told : yX7_told.cls = RX7 ∧ yX7_told.cls ≠ "java/lang/invoke/MethodHandle" ∧ yX7_told.cls ≠ "java/lang/invoke/VarHandle" ∧ (parseMethodDescriptor yX7_told.desc).map (fun d => d.parameters.length) = some 5 := by decide +kernel
theorem pdVX7_wrong : yX7_wrong.cls = RX7 ∧ yX7_wrong.cls ≠ "java/lang/invoke/MethodHandle" ∧ yX7_wrong.cls ≠ "java/lang/invoke/VarHandle" ∧ (parseMethodDescriptor yX7_wrong.desc).map (fun d => d.parameters.length) = some 0 := by decide +kernel
theorem dX7_isWord_0 : decode cX7_isWord 0 = .ok (.aload_n 0, 1) := by decide +kernel
theorem dX7_isWord_1 : decode cX7_isWord 1 = .ok (.getfield 153, 3) := by decide +kernel
theorem dX7_isWord_4 : decode cX7_isWord 4 = .ok (.iconst 1, 1) := by decide +kernel
theorem dX7_isWord_5 : decode cX7_isWord 5 = .ok (.if_icmp .ne 19, 3) := by decide +kernel
theorem dX7_isWord_8 : decode cX7_isWord 8 = .ok (.aload_n 0, 1) := by decide +kernel
theorem dX7_isWord_9 : decode cX7_isWord 9 = .ok (.getfield 143, 3) := by decide +kernel
theorem dX7_isWord_12 : decode cX7_isWord 12 = .ok (.aload_n 0, 1) := by decide +kernel
theorem dX7_isWord_13 : decode cX7_isWord 13 = .ok (.getfield 146, 3) := by decide +kernel
theorem dX7_isWord_16 : decode cX7_isWord 16 = .ok (.isub, 1) := by decide +kernel
theorem dX7_isWord_17 : decode cX7_isWord 17 = .ok (.aload_n 1, 1) := by decide +kernel
theorem dX7_isWord_18 : decode cX7_isWord 18 = .ok (.invokevirtual 171, 3) := by decide +kernel
theorem dX7_isWord_21 : decode cX7_isWord 21 = .ok (.if_icmp .eq 5, 3) := by decide +kernel
theorem dX7_isWord_24 : decode cX7_isWord 24 = .ok (.iconst 0, 1) := by decide +kernel
theorem dX7_isWord_25 : decode cX7_isWord 25 = .ok (.ireturn, 1) := by decide +kernel
theorem dX7_isWord_26 : decode cX7_isWord 26 = .ok (.iconst 0, 1) := by decide +kernel
theorem dX7_isWord_27 : decode cX7_isWord 27 = .ok (.istore_n 2, 1) := by decide +kernel
theorem dX7_isWord_28 : decode cX7_isWord 28 = .ok (.iload_n 2, 1) := by decide +kernel
theorem dX7_isWord_29 : decode cX7_isWord 29 = .ok (.aload_n 1, 1) := by decide +kernel
theorem dX7_isWord_30 : decode cX7_isWord 30 = .ok (.invokevirtual 171, 3) := by decide +kernel
theorem dX7_isWord_33 : decode cX7_isWord 33 = .ok (.if_icmp .ge 30, 3) := by decide +kernel
theorem dX7_isWord_36 : decode cX7_isWord 36 = .ok (.aload_n 0, 1) := by decide +kernel
theorem dX7_isWord_37 : decode cX7_isWord 37 = .ok (.getfield 31, 3) := by decide +kernel
theorem dX7_isWord_40 : decode cX7_isWord 40 = .ok (.aload_n 0, 1) := by decide +kernel
theorem dX7_isWord_41 : decode cX7_isWord 41 = .ok (.getfield 146, 3) := by decide +kernel
theorem dX7_isWord_44 : decode cX7_isWord 44 = .ok (.iload_n 2, 1) := by decide +kernel
theorem dX7_isWord_45 : decode cX7_isWord 45 = .ok (.iadd, 1) := by decide +kernel
theorem dX7_isWord_46 : decode cX7_isWord 46 = .ok (.iaload, 1) := by decide +kernel
theorem dX7_isWord_47 : decode cX7_isWord 47 = .ok (.aload_n 1, 1) := by decide +kernel
theorem dX7_isWord_48 : decode cX7_isWord 48 = .ok (.iload_n 2, 1) := by decide +kernel
theorem dX7_isWord_49 : decode cX7_isWord 49 = .ok (.invokevirtual 177, 3) := by decide +kernel
theorem dX7_isWord_52 : decode cX7_isWord 52 = .ok (.if_icmp .eq 5, 3) := by decide +kernel
theorem dX7_isWord_55 : decode cX7_isWord 55 = .ok (.iconst 0, 1) := by decide +kernel
theorem dX7_isWord_56 : decode cX7_isWord 56 = .ok (.ireturn, 1) := by decide +kernel
theorem dX7_isWord_57 : decode cX7_isWord 57 = .ok (.iinc 2 1, 3) := by decide +kernel
theorem dX7_isWord_60 : decode cX7_isWord 60 = .ok (.goto (-32), 3) := by decide +kernel
theorem dX7_isWord_63 : decode cX7_isWord 63 = .ok (.iconst 1, 1) := by decide +kernel
theorem dX7_isWord_64 : decode cX7_isWord 64 = .ok (.ireturn, 1) := by decide +kernel
theorem dX7_look_0 : decode cX7_look 0 = .ok (.aload_n 0, 1) := by decide +kernel
theorem dX7_look_1 : decode cX7_look 1 = .ok (.getfield 143, 3) := by decide +kernel
theorem dX7_look_4 : decode cX7_look 4 = .ok (.aload_n 0, 1) := by decide +kernel
theorem dX7_look_5 : decode cX7_look 5 = .ok (.getfield 140, 3) := by decide +kernel
theorem dX7_look_8 : decode cX7_look 8 = .ok (.if_icmp .ge 30, 3) := by decide +kernel
theorem dX7_look_11 : decode cX7_look 11 = .ok (.aload_n 0, 1) := by decide +kernel
theorem dX7_look_12 : decode cX7_look 12 = .ok (.getfield 31, 3) := by decide +kernel
theorem dX7_look_15 : decode cX7_look 15 = .ok (.aload_n 0, 1) := by decide +kernel
theorem dX7_look_16 : decode cX7_look 16 = .ok (.getfield 143, 3) := by decide +kernel
theorem dX7_look_19 : decode cX7_look 19 = .ok (.iaload, 1) := by decide +kernel
theorem dX7_look_20 : decode cX7_look 20 = .ok (.bipush 32, 2) := by decide +kernel
theorem dX7_look_22 : decode cX7_look 22 = .ok (.if_icmp .ne 16, 3) := by decide +kernel
theorem dX7_look_25 : decode cX7_look 25 = .ok (.aload_n 0, 1) := by decide +kernel
theorem dX7_look_26 : decode cX7_look 26 = .ok (.dup, 1) := by decide +kernel
theorem dX7_look_27 : decode cX7_look 27 = .ok (.getfield 143, 3) := by decide +kernel
theorem dX7_look_30 : decode cX7_look 30 = .ok (.iconst 1, 1) := by decide +kernel
theorem dX7_look_31 : decode cX7_look 31 = .ok (.iadd, 1) := by decide +kernel
theorem dX7_look_32 : decode cX7_look 32 = .ok (.putfield 143, 3) := by decide +kernel
theorem dX7_look_35 : decode cX7_look 35 = .ok (.goto (-35), 3) := by decide +kernel
theorem dX7_look_38 : decode cX7_look 38 = .ok (.aload_n 0, 1) := by decide +kernel
theorem dX7_look_39 : decode cX7_look 39 = .ok (.aload_n 0, 1) := by decide +kernel
theorem dX7_look_40 : decode cX7_look 40 = .ok (.getfield 143, 3) := by decide +kernel
theorem dX7_look_43 : decode cX7_look 43 = .ok (.putfield 146, 3) := by decide +kernel
theorem dX7_look_46 : decode cX7_look 46 = .ok (.aload_n 0, 1) := by decide +kernel
theorem dX7_look_47 : decode cX7_look 47 = .ok (.lconst 0, 1) := by decide +kernel
theorem dX7_look_48 : decode cX7_look 48 = .ok (.putfield 149, 3) := by decide +kernel
theorem dX7_look_51 : decode cX7_look 51 = .ok (.aload_n 0, 1) := by decide +kernel
theorem dX7_look_52 : decode cX7_look 52 = .ok (.getfield 143, 3) := by decide +kernel
theorem dX7_look_55 : decode cX7_look 55 = .ok (.aload_n 0, 1) := by decide +kernel
theorem dX7_look_56 : decode cX7_look 56 = .ok (.getfield 140, 3) := by decide +kernel
theorem dX7_look_59 : decode cX7_look 59 = .ok (.if_icmp .ne 11, 3) := by decide +kernel
theorem dX7_look_62 : decode cX7_look 62 = .ok (.aload_n 0, 1) := by decide +kernel
theorem dX7_look_63 : decode cX7_look 63 = .ok (.iconst 0, 1) := by decide +kernel
theorem dX7_look_64 : decode cX7_look 64 = .ok (.putfield 153, 3) := by decide +kernel
theorem dX7_look_67 : decode cX7_look 67 = .ok (.goto 200, 3) := by decide +kernel
theorem dX7_look_70 : decode cX7_look 70 = .ok (.aload_n 0, 1) := by decide +kernel
theorem dX7_look_71 : decode cX7_look 71 = .ok (.getfield 31, 3) := by decide +kernel
theorem dX7_look_74 : decode cX7_look 74 = .ok (.aload_n 0, 1) := by decide +kernel
theorem dX7_look_75 : decode cX7_look 75 = .ok (.getfield 143, 3) := by decide +kernel
theorem dX7_look_78 : decode cX7_look 78 = .ok (.iaload, 1) := by decide +kernel
theorem dX7_look_79 : decode cX7_look 79 = .ok (.invokestatic 156, 3) := by decide +kernel
theorem dX7_look_82 : decode cX7_look 82 = .ok (.ifCond .eq 47, 3) := by decide +kernel
theorem dX7_look_85 : decode cX7_look 85 = .ok (.aload_n 0, 1) := by decide +kernel
theorem dX7_look_86 : decode cX7_look 86 = .ok (.iconst 1, 1) := by decide +kernel
theorem dX7_look_87 : decode cX7_look 87 = .ok (.putfield 153, 3) := by decide +kernel
theorem dX7_look_90 : decode cX7_look 90 = .ok (.aload_n 0, 1) := by decide +kernel
theorem dX7_look_91 : decode cX7_look 91 = .ok (.getfield 143, 3) := by decide +kernel
theorem dX7_look_94 : decode cX7_look 94 = .ok (.aload_n 0, 1) := by decide +kernel
theorem dX7_look_95 : decode cX7_look 95 = .ok (.getfield 140, 3) := by decide +kernel
theorem dX7_look_98 : decode cX7_look 98 = .ok (.if_icmp .ge 169, 3) := by decide +kernel
theorem dX7_look_101 : decode cX7_look 101 = .ok (.aload_n 0, 1) := by decide +kernel
theorem dX7_look_102 : decode cX7_look 102 = .ok (.getfield 31, 3) := by decide +kernel
theorem dX7_look_105 : decode cX7_look 105 = .ok (.aload_n 0, 1) := by decide +kernel
theorem dX7_look_106 : decode cX7_look 106 = .ok (.getfield 143, 3) := by decide +kernel
theorem dX7_look_109 : decode cX7_look 109 = .ok (.iaload, 1) := by decide +kernel
theorem dX7_look_110 : decode cX7_look 110 = .ok (.invokestatic 156, 3) := by decide +kernel
theorem dX7_look_113 : decode cX7_look 113 = .ok (.ifCond .eq 154, 3) := by decide +kernel
theorem dX7_look_116 : decode cX7_look 116 = .ok (.aload_n 0, 1) := by decide +kernel
theorem dX7_look_117 : decode cX7_look 117 = .ok (.dup, 1) := by decide +kernel
theorem dX7_look_118 : decode cX7_look 118 = .ok (.getfield 143, 3) := by decide +kernel
theorem dX7_look_121 : decode cX7_look 121 = .ok (.iconst 1, 1) := by decide +kernel
theorem dX7_look_122 : decode cX7_look 122 = .ok (.iadd, 1) := by decide +kernel
theorem dX7_look_123 : decode cX7_look 123 = .ok (.putfield 143, 3) := by decide +kernel
theorem dX7_look_126 : decode cX7_look 126 = .ok (.goto (-36), 3) := by decide +kernel
theorem dX7_look_129 : decode cX7_look 129 = .ok (.aload_n 0, 1) := by decide +kernel
theorem dX7_look_130 : decode cX7_look 130 = .ok (.getfield 31, 3) := by decide +kernel
theorem dX7_look_133 : decode cX7_look 133 = .ok (.aload_n 0, 1) := by decide +kernel
theorem dX7_look_134 : decode cX7_look 134 = .ok (.getfield 143, 3) := by decide +kernel
theorem dX7_look_137 : decode cX7_look 137 = .ok (.iaload, 1) := by decide +kernel
theorem dX7_look_138 : decode cX7_look 138 = .ok (.invokestatic 159, 3) := by decide +kernel
theorem dX7_look_141 : decode cX7_look 141 = .ok (.ifCond .eq 93, 3) := by decide +kernel
theorem dX7_look_144 : decode cX7_look 144 = .ok (.aload_n 0, 1) := by decide +kernel
theorem dX7_look_145 : decode cX7_look 145 = .ok (.iconst 2, 1) := by decide +kernel
theorem dX7_look_146 : decode cX7_look 146 = .ok (.putfield 153, 3) := by decide +kernel
theorem dX7_look_149 : decode cX7_look 149 = .ok (.aload_n 0, 1) := by decide +kernel
theorem dX7_look_150 : decode cX7_look 150 = .ok (.getfield 143, 3) := by decide +kernel
theorem dX7_look_153 : decode cX7_look 153 = .ok (.aload_n 0, 1) := by decide +kernel
theorem dX7_look_154 : decode cX7_look 154 = .ok (.getfield 140, 3) := by decide +kernel
theorem dX7_look_157 : decode cX7_look 157 = .ok (.if_icmp .ge 110, 3) := by decide +kernel
theorem dX7_look_160 : decode cX7_look 160 = .ok (.aload_n 0, 1) := by decide +kernel
theorem dX7_look_161 : decode cX7_look 161 = .ok (.getfield 31, 3) := by decide +kernel
theorem dX7_look_164 : decode cX7_look 164 = .ok (.aload_n 0, 1) := by decide +kernel
theorem dX7_look_165 : decode cX7_look 165 = .ok (.getfield 143, 3) := by decide +kernel
theorem dX7_look_168 : decode cX7_look 168 = .ok (.iaload, 1) := by decide +kernel
theorem dX7_look_169 : decode cX7_look 169 = .ok (.invokestatic 159, 3) := by decide +kernel
theorem dX7_look_172 : decode cX7_look 172 = .ok (.ifCond .eq 95, 3) := by decide +kernel
theorem dX7_look_175 : decode cX7_look 175 = .ok (.aload_n 0, 1) := by decide +kernel
theorem dX7_look_176 : decode cX7_look 176 = .ok (.aload_n 0, 1) := by decide +kernel
theorem dX7_look_177 : decode cX7_look 177 = .ok (.getfield 143, 3) := by decide +kernel
theorem dX7_look_180 : decode cX7_look 180 = .ok (.aload_n 0, 1) := by decide +kernel
theorem dX7_look_181 : decode cX7_look 181 = .ok (.getfield 146, 3) := by decide +kernel
theorem dX7_look_184 : decode cX7_look 184 = .ok (.isub, 1) := by decide +kernel
theorem dX7_look_185 : decode cX7_look 185 = .ok (.iconst 3, 1) := by decide +kernel
theorem dX7_look_186 : decode cX7_look 186 = .ok (.if_icmp .ge 29, 3) := by decide +kernel
theorem dX7_look_189 : decode cX7_look 189 = .ok (.aload_n 0, 1) := by decide +kernel
theorem dX7_look_190 : decode cX7_look 190 = .ok (.getfield 149, 3) := by decide +kernel
theorem dX7_look_193 : decode cX7_look 193 = .ok (.ldc2_w 162, 3) := by decide +kernel
theorem dX7_look_196 : decode cX7_look 196 = .ok (.lmul, 1) := by decide +kernel
theorem dX7_look_197 : decode cX7_look 197 = .ok (.aload_n 0, 1) := by decide +kernel
theorem dX7_look_198 : decode cX7_look 198 = .ok (.getfield 31, 3) := by decide +kernel
theorem dX7_look_201 : decode cX7_look 201 = .ok (.aload_n 0, 1) := by decide +kernel
theorem dX7_look_202 : decode cX7_look 202 = .ok (.getfield 143, 3) := by decide +kernel
theorem dX7_look_205 : decode cX7_look 205 = .ok (.iaload, 1) := by decide +kernel
theorem dX7_look_206 : decode cX7_look 206 = .ok (.i2l, 1) := by decide +kernel
theorem dX7_look_207 : decode cX7_look 207 = .ok (.ladd, 1) := by decide +kernel
theorem dX7_look_208 : decode cX7_look 208 = .ok (.ldc2_w 164, 3) := by decide +kernel
theorem dX7_look_211 : decode cX7_look 211 = .ok (.lsub, 1) := by decide +kernel
theorem dX7_look_212 : decode cX7_look 212 = .ok (.goto 6, 3) := by decide +kernel
theorem dX7_look_215 : decode cX7_look 215 = .ok (.ldc2_w 166, 3) := by decide +kernel
theorem dX7_look_218 : decode cX7_look 218 = .ok (.putfield 149, 3) := by decide +kernel
theorem dX7_look_221 : decode cX7_look 221 = .ok (.aload_n 0, 1) := by decide +kernel
theorem dX7_look_222 : decode cX7_look 222 = .ok (.dup, 1) := by decide +kernel
theorem dX7_look_223 : decode cX7_look 223 = .ok (.getfield 143, 3) := by decide +kernel
theorem dX7_look_226 : decode cX7_look 226 = .ok (.iconst 1, 1) := by decide +kernel
theorem dX7_look_227 : decode cX7_look 227 = .ok (.iadd, 1) := by decide +kernel
theorem dX7_look_228 : decode cX7_look 228 = .ok (.putfield 143, 3) := by decide +kernel
theorem dX7_look_231 : decode cX7_look 231 = .ok (.goto (-82), 3) := by decide +kernel
theorem dX7_look_234 : decode cX7_look 234 = .ok (.aload_n 0, 1) := by decide +kernel
theorem dX7_look_235 : decode cX7_look 235 = .ok (.aload_n 0, 1) := by decide +kernel
theorem dX7_look_236 : decode cX7_look 236 = .ok (.getfield 31, 3) := by decide +kernel
theorem dX7_look_239 : decode cX7_look 239 = .ok (.aload_n 0, 1) := by decide +kernel
theorem dX7_look_240 : decode cX7_look 240 = .ok (.getfield 143, 3) := by decide +kernel
theorem dX7_look_243 : decode cX7_look 243 = .ok (.iaload, 1) := by decide +kernel
theorem dX7_look_244 : decode cX7_look 244 = .ok (.bipush 59, 2) := by decide +kernel
theorem dX7_look_246 : decode cX7_look 246 = .ok (.if_icmp .ne 7, 3) := by decide +kernel
theorem dX7_look_249 : decode cX7_look 249 = .ok (.iconst 3, 1) := by decide +kernel
theorem dX7_look_250 : decode cX7_look 250 = .ok (.goto 4, 3) := by decide +kernel
theorem dX7_look_253 : decode cX7_look 253 = .ok (.iconst 4, 1) := by decide +kernel
theorem dX7_look_254 : decode cX7_look 254 = .ok (.putfield 153, 3) := by decide +kernel
theorem dX7_look_257 : decode cX7_look 257 = .ok (.aload_n 0, 1) := by decide +kernel
theorem dX7_look_258 : decode cX7_look 258 = .ok (.dup, 1) := by decide +kernel
theorem dX7_look_259 : decode cX7_look 259 = .ok (.getfield 143, 3) := by decide +kernel
theorem dX7_look_262 : decode cX7_look 262 = .ok (.iconst 1, 1) := by decide +kernel
theorem dX7_look_263 : decode cX7_look 263 = .ok (.iadd, 1) := by decide +kernel
theorem dX7_look_264 : decode cX7_look 264 = .ok (.putfield 143, 3) := by decide +kernel
theorem dX7_look_267 : decode cX7_look 267 = .ok (.return_, 1) := by decide +kernel
theorem dX7_number_0 : decode cX7_number 0 = .ok (.aload_n 0, 1) := by decide +kernel
theorem dX7_number_1 : decode cX7_number 1 = .ok (.getfield 153, 3) := by decide +kernel
theorem dX7_number_4 : decode cX7_number 4 = .ok (.iconst 2, 1) := by decide +kernel
theorem dX7_number_5 : decode cX7_number 5 = .ok (.if_icmp .ne 18, 3) := by decide +kernel
theorem dX7_number_8 : decode cX7_number 8 = .ok (.aload_n 0, 1) := by decide +kernel
theorem dX7_number_9 : decode cX7_number 9 = .ok (.getfield 149, 3) := by decide +kernel
theorem dX7_number_12 : decode cX7_number 12 = .ok (.iload_n 3, 1) := by decide +kernel
theorem dX7_number_13 : decode cX7_number 13 = .ok (.i2l, 1) := by decide +kernel
theorem dX7_number_14 : decode cX7_number 14 = .ok (.iload 4, 2) := by decide +kernel
theorem dX7_number_16 : decode cX7_number 16 = .ok (.i2l, 1) := by decide +kernel
theorem dX7_number_17 : decode cX7_number 17 = .ok (.invokestatic 62, 3) := by decide +kernel
theorem dX7_number_20 : decode cX7_number 20 = .ok (.ifCond .ne 8, 3) := by decide +kernel
theorem dX7_number_23 : decode cX7_number 23 = .ok (.aload_n 0, 1) := by decide +kernel
theorem dX7_number_24 : decode cX7_number 24 = .ok (.invokevirtual 181, 3) := by decide +kernel
theorem dX7_number_27 : decode cX7_number 27 = .ok (.ireturn, 1) := by decide +kernel
theorem dX7_number_28 : decode cX7_number 28 = .ok (.aload_n 1, 1) := by decide +kernel
theorem dX7_number_29 : decode cX7_number 29 = .ok (.iload_n 2, 1) := by decide +kernel
theorem dX7_number_30 : decode cX7_number 30 = .ok (.aload_n 0, 1) := by decide +kernel
theorem dX7_number_31 : decode cX7_number 31 = .ok (.getfield 149, 3) := by decide +kernel
theorem dX7_number_34 : decode cX7_number 34 = .ok (.l2i, 1) := by decide +kernel
theorem dX7_number_35 : decode cX7_number 35 = .ok (.iastore, 1) := by decide +kernel
theorem dX7_number_36 : decode cX7_number 36 = .ok (.aload_n 0, 1) := by decide +kernel
theorem dX7_number_37 : decode cX7_number 37 = .ok (.invokevirtual 185, 3) := by decide +kernel
theorem dX7_number_40 : decode cX7_number 40 = .ok (.iconst 1, 1) := by decide +kernel
theorem dX7_number_41 : decode cX7_number 41 = .ok (.ireturn, 1) := by decide +kernel
theorem dX7_perhaps_0 : decode cX7_perhaps 0 = .ok (.aload_n 0, 1) := by decide +kernel
theorem dX7_perhaps_1 : decode cX7_perhaps 1 = .ok (.aload_n 1, 1) := by decide +kernel
theorem dX7_perhaps_2 : decode cX7_perhaps 2 = .ok (.invokevirtual 188, 3) := by decide +kernel
theorem dX7_perhaps_5 : decode cX7_perhaps 5 = .ok (.ifCond .eq 17, 3) := by decide +kernel
theorem dX7_perhaps_8 : decode cX7_perhaps 8 = .ok (.aload_n 0, 1) := by decide +kernel
theorem dX7_perhaps_9 : decode cX7_perhaps 9 = .ok (.aload_n 1, 1) := by decide +kernel
theorem dX7_perhaps_10 : decode cX7_perhaps 10 = .ok (.aload_n 2, 1) := by decide +kernel
theorem dX7_perhaps_11 : decode cX7_perhaps 11 = .ok (.iload_n 3, 1) := by decide +kernel
theorem dX7_perhaps_12 : decode cX7_perhaps 12 = .ok (.iload 4, 2) := by decide +kernel
theorem dX7_perhaps_14 : decode cX7_perhaps 14 = .ok (.iload 5, 2) := by decide +kernel
theorem dX7_perhaps_16 : decode cX7_perhaps 16 = .ok (.invokevirtual 196, 3) := by decide +kernel
theorem dX7_perhaps_19 : decode cX7_perhaps 19 = .ok (.ifCond .eq 7, 3) := by decide +kernel
theorem dX7_perhaps_22 : decode cX7_perhaps 22 = .ok (.iconst 1, 1) := by decide +kernel
theorem dX7_perhaps_23 : decode cX7_perhaps 23 = .ok (.goto 4, 3) := by decide +kernel
theorem dX7_perhaps_26 : decode cX7_perhaps 26 = .ok (.iconst 0, 1) := by decide +kernel
theorem dX7_perhaps_27 : decode cX7_perhaps 27 = .ok (.ireturn, 1) := by decide +kernel
theorem dX7_told_0 : decode cX7_told 0 = .ok (.aload_n 0, 1) := by decide +kernel
theorem dX7_told_1 : decode cX7_told 1 = .ok (.aload_n 1, 1) := by decide +kernel
theorem dX7_told_2 : decode cX7_told 2 = .ok (.invokevirtual 188, 3) := by decide +kernel
theorem dX7_told_5 : decode cX7_told 5 = .ok (.ifCond .ne 8, 3) := by decide +kernel
theorem dX7_told_8 : decode cX7_told 8 = .ok (.aload_n 0, 1) := by decide +kernel
theorem dX7_told_9 : decode cX7_told 9 = .ok (.invokevirtual 181, 3) := by decide +kernel
theorem dX7_told_12 : decode cX7_told 12 = .ok (.ireturn, 1) := by decide +kernel
theorem dX7_told_13 : decode cX7_told 13 = .ok (.aload_n 0, 1) := by decide +kernel
theorem dX7_told_14 : decode cX7_told 14 = .ok (.invokevirtual 185, 3) := by decide +kernel
theorem dX7_told_17 : decode cX7_told 17 = .ok (.aload_n 0, 1) := by decide +kernel
theorem dX7_told_18 : decode cX7_told 18 = .ok (.aload_n 2, 1) := by decide +kernel
theorem dX7_told_19 : decode cX7_told 19 = .ok (.iload_n 3, 1) := by decide +kernel
theorem dX7_told_20 : decode cX7_told 20 = .ok (.iload 4, 2) := by decide +kernel
theorem dX7_told_22 : decode cX7_told 22 = .ok (.iload 5, 2) := by decide +kernel
theorem dX7_told_24 : decode cX7_told 24 = .ok (.invokevirtual 192, 3) := by decide +kernel
theorem dX7_told_27 : decode cX7_told 27 = .ok (.ireturn, 1) := by decide +kernel
theorem dX7_wrong_0 : decode cX7_wrong 0 = .ok (.aload_n 0, 1) := by decide +kernel
theorem dX7_wrong_1 : decode cX7_wrong 1 = .ok (.aload_n 0, 1) := by decide +kernel
theorem dX7_wrong_2 : decode cX7_wrong 2 = .ok (.getfield 146, 3) := by decide +kernel
theorem dX7_wrong_5 : decode cX7_wrong 5 = .ok (.putfield 168, 3) := by decide +kernel
theorem dX7_wrong_8 : decode cX7_wrong 8 = .ok (.iconst 0, 1) := by decide +kernel
theorem dX7_wrong_9 : decode cX7_wrong 9 = .ok (.ireturn, 1) := by decide +kernel

