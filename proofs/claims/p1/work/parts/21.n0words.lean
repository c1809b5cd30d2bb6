theorem q_35 : Cond.selects RX7 yX7_newRoad yX7_newRoad ∈ oh_t := oh_of (i := 35) (by decide +kernel) rfl
theorem q_38 : Cond.selects RX7 yX7_read yX7_read ∈ oh_t := oh_of (i := 38) (by decide +kernel) rfl
theorem q_39 : Cond.selects RX7 yX7_look yX7_look ∈ oh_t := oh_of (i := 39) (by decide +kernel) rfl
theorem q_40 : Cond.selects RX7 yX7_statement yX7_statement ∈ oh_t := oh_of (i := 40) (by decide +kernel) rfl
theorem q_41 : Cond.selects RX7 yX7_isWord yX7_isWord ∈ oh_t := oh_of (i := 41) (by decide +kernel) rfl
theorem q_44 : Cond.selects RX7 yX7_wrong yX7_wrong ∈ oh_t := oh_of (i := 44) (by decide +kernel) rfl
theorem q_45 : Cond.selects RX7 yX7_told yX7_told ∈ oh_t := oh_of (i := 45) (by decide +kernel) rfl
theorem q_974 : Cond.fieldLink RX7 13 "OneHeavyLoadModel" "rowSort" "[I" ∈ oh_t := oh_of (i := 974) (by decide +kernel) rfl
theorem q_975 : Cond.fieldLink RX7 16 "OneHeavyLoadModel" "rowSize" "[I" ∈ oh_t := oh_of (i := 975) (by decide +kernel) rfl
theorem q_976 : Cond.fieldLink RX7 21 "OneHeavyLoadModel" "rows" "[[J" ∈ oh_t := oh_of (i := 976) (by decide +kernel) rfl
theorem q_979 : Cond.fieldLink RX7 31 "OneHeavyLoadModel" "tape" "[I" ∈ oh_t := oh_of (i := 979) (by decide +kernel) rfl
theorem q_983 : Cond.fieldLink RX7 39 "OneHeavyLoadModel" "road" "[[I" ∈ oh_t := oh_of (i := 983) (by decide +kernel) rfl
theorem q_987 : Cond.fieldLink RX7 45 "OneHeavyLoadModel" "waggon" "[[I" ∈ oh_t := oh_of (i := 987) (by decide +kernel) rfl
theorem q_988 : Cond.fieldLink RX7 80 "OneHeavyLoadModel" "parts" "I" ∈ oh_t := oh_of (i := 988) (by decide +kernel) rfl
theorem q_989 : Cond.fieldLink RX7 48 "OneHeavyLoadModel" "part" "[[I" ∈ oh_t := oh_of (i := 989) (by decide +kernel) rfl
theorem q_990 : Cond.fieldLink RX7 51 "OneHeavyLoadModel" "asked" "[I" ∈ oh_t := oh_of (i := 990) (by decide +kernel) rfl
theorem q_994 : Cond.fieldLink RX7 143 "OneHeavyLoadModel" "at" "I" ∈ oh_t := oh_of (i := 994) (by decide +kernel) rfl
theorem q_995 : Cond.fieldLink RX7 153 "OneHeavyLoadModel" "token" "I" ∈ oh_t := oh_of (i := 995) (by decide +kernel) rfl
theorem q_996 : Cond.fieldLink RX7 146 "OneHeavyLoadModel" "from" "I" ∈ oh_t := oh_of (i := 996) (by decide +kernel) rfl
theorem q_997 : Cond.fieldLink RX7 149 "OneHeavyLoadModel" "figures" "J" ∈ oh_t := oh_of (i := 997) (by decide +kernel) rfl
theorem q_998 : Cond.fieldLink RX7 168 "OneHeavyLoadModel" "fault" "I" ∈ oh_t := oh_of (i := 998) (by decide +kernel) rfl
theorem q_999 : Cond.fieldLink RX7 240 "OneHeavyLoadModel" "statements" "I" ∈ oh_t := oh_of (i := 999) (by decide +kernel) rfl
theorem q_1070 : Cond.constantLong RX7 87 40 ∈ oh_t := oh_of (i := 1070) (by decide +kernel) rfl
theorem q_1134 : Cond.constantLong RX7 116 60 ∈ oh_t := oh_of (i := 1134) (by decide +kernel) rfl
theorem q_1135 : Cond.constantLong RX7 118 9 ∈ oh_t := oh_of (i := 1135) (by decide +kernel) rfl
theorem q_1136 : Cond.constantLong RX7 120 99 ∈ oh_t := oh_of (i := 1136) (by decide +kernel) rfl
theorem q_1137 : Cond.methodLink RX7 122 yX7_newRoad ∈ oh_t := oh_of (i := 1137) (by decide +kernel) rfl
theorem q_1139 : Cond.instanceMethod yX7_newRoad ∈ oh_t := oh_of (i := 1139) (by decide +kernel) rfl
theorem q_1140 : Cond.code yX7_newRoad cX7_newRoad 4 none ∈ oh_t := oh_of (i := 1140) (by decide +kernel) rfl
theorem q_1163 : Cond.constantLong RX7 136 12 ∈ oh_t := oh_of (i := 1163) (by decide +kernel) rfl
theorem q_1172 : Cond.constantLong RX7 138 900 ∈ oh_t := oh_of (i := 1172) (by decide +kernel) rfl
theorem q_1193 : Cond.methodLink RX7 246 yX7_read ∈ oh_t := oh_of (i := 1193) (by decide +kernel) rfl
theorem q_1195 : Cond.instanceMethod yX7_read ∈ oh_t := oh_of (i := 1195) (by decide +kernel) rfl
theorem q_1196 : Cond.code yX7_read cX7_read 1 (some .boolean) ∈ oh_t := oh_of (i := 1196) (by decide +kernel) rfl
theorem q_1197 : Cond.methodLink RX7 185 yX7_look ∈ oh_t := oh_of (i := 1197) (by decide +kernel) rfl
theorem q_1199 : Cond.instanceMethod yX7_look ∈ oh_t := oh_of (i := 1199) (by decide +kernel) rfl
theorem q_1200 : Cond.code yX7_look cX7_look 1 none ∈ oh_t := oh_of (i := 1200) (by decide +kernel) rfl
theorem q_1210 : Cond.methodLink RX7 243 yX7_statement ∈ oh_t := oh_of (i := 1210) (by decide +kernel) rfl
theorem q_1212 : Cond.instanceMethod yX7_statement ∈ oh_t := oh_of (i := 1212) (by decide +kernel) rfl
theorem q_1213 : Cond.code yX7_statement cX7_statement 2 (some .boolean) ∈ oh_t := oh_of (i := 1213) (by decide +kernel) rfl
theorem q_1215 : Cond.methodLink RX7 188 yX7_isWord ∈ oh_t := oh_of (i := 1215) (by decide +kernel) rfl
theorem q_1217 : Cond.instanceMethod yX7_isWord ∈ oh_t := oh_of (i := 1217) (by decide +kernel) rfl
theorem q_1218 : Cond.code yX7_isWord cX7_isWord 3 (some .boolean) ∈ oh_t := oh_of (i := 1218) (by decide +kernel) rfl
theorem q_1229 : Cond.methodLink RX7 181 yX7_wrong ∈ oh_t := oh_of (i := 1229) (by decide +kernel) rfl
theorem q_1231 : Cond.instanceMethod yX7_wrong ∈ oh_t := oh_of (i := 1231) (by decide +kernel) rfl
theorem q_1232 : Cond.code yX7_wrong cX7_wrong 1 (some .boolean) ∈ oh_t := oh_of (i := 1232) (by decide +kernel) rfl
theorem q_1234 : Cond.methodLink RX7 196 yX7_told ∈ oh_t := oh_of (i := 1234) (by decide +kernel) rfl
theorem q_1236 : Cond.instanceMethod yX7_told ∈ oh_t := oh_of (i := 1236) (by decide +kernel) rfl
theorem q_1237 : Cond.code yX7_told cX7_told 6 (some .boolean) ∈ oh_t := oh_of (i := 1237) (by decide +kernel) rfl
theorem q_1445 : Cond.constantLong RX7 344 16 ∈ oh_t := oh_of (i := 1445) (by decide +kernel) rfl
theorem pdVX7_isWord : yX7_isWord.cls = RX7 ∧ yX7_isWord.cls ≠ "java/lang/invoke/MethodHandle" ∧ yX7_isWord.cls ≠ "java/lang/invoke/VarHandle" ∧ (parseMethodDescriptor yX7_isWord.desc).map (fun d => d.parameters.length) = some 1 := by decide +kernel
theorem pdVX7_look : yX7_look.cls = RX7 ∧ yX7_look.cls ≠ "java/lang/invoke/MethodHandle" ∧ yX7_look.cls ≠ "java/lang/invoke/VarHandle" ∧ (parseMethodDescriptor yX7_look.desc).map (fun d => d.parameters.length) = some 0 := by decide +kernel
theorem pdVX7_newRoad : yX7_newRoad.cls = RX7 ∧ yX7_newRoad.cls ≠ "java/lang/invoke/MethodHandle" ∧ yX7_newRoad.cls ≠ "java/lang/invoke/VarHandle" ∧ (parseMethodDescriptor yX7_newRoad.desc).map (fun d => d.parameters.length) = some 2 := by decide +kernel
theorem pdVX7_read : yX7_read.cls = RX7 ∧ yX7_read.cls ≠ "java/lang/invoke/MethodHandle" ∧ yX7_read.cls ≠ "java/lang/invoke/VarHandle" ∧ (parseMethodDescriptor yX7_read.desc).map (fun d => d.parameters.length) = some 0 := by decide +kernel
theorem pdVX7_statement : yX7_statement.cls = RX7 ∧ yX7_statement.cls ≠ "java/lang/invoke/MethodHandle" ∧ yX7_statement.cls ≠ "java/lang/invoke/VarHandle" ∧ (parseMethodDescriptor yX7_statement.desc).map (fun d => d.parameters.length) = some 0 := by decide +kernel
theorem pdVX7_told : yX7_told.cls = RX7 ∧ yX7_told.cls ≠ "java/lang/invoke/MethodHandle" ∧ yX7_told.cls ≠ "java/lang/invoke/VarHandle" ∧ (parseMethodDescriptor yX7_told.desc).map (fun d => d.parameters.length) = some 5 := by decide +kernel
theorem pdVX7_wrong : yX7_wrong.cls = RX7 ∧ yX7_wrong.cls ≠ "java/lang/invoke/MethodHandle" ∧ yX7_wrong.cls ≠ "java/lang/invoke/VarHandle" ∧ (parseMethodDescriptor yX7_wrong.desc).map (fun d => d.parameters.length) = some 0 := by decide +kernel
theorem dX7_ask_0 : decode cX7_ask 0 = .ok (.iload_n 1, 1) := by decide +kernel
theorem dX7_ask_1 : decode cX7_ask 1 = .ok (.i2l, 1) := by decide +kernel
theorem dX7_ask_2 : decode cX7_ask 2 = .ok (.lconst 0, 1) := by decide +kernel
theorem dX7_ask_3 : decode cX7_ask 3 = .ok (.ldc2_w 134, 3) := by decide +kernel
theorem dX7_ask_6 : decode cX7_ask 6 = .ok (.invokestatic 62, 3) := by decide +kernel
theorem dX7_ask_9 : decode cX7_ask 9 = .ok (.ifCond .eq 34, 3) := by decide +kernel
theorem dX7_ask_12 : decode cX7_ask 12 = .ok (.iload_n 2, 1) := by decide +kernel
theorem dX7_ask_13 : decode cX7_ask 13 = .ok (.i2l, 1) := by decide +kernel
theorem dX7_ask_14 : decode cX7_ask 14 = .ok (.lconst 0, 1) := by decide +kernel
theorem dX7_ask_15 : decode cX7_ask 15 = .ok (.iload_n 1, 1) := by decide +kernel
theorem dX7_ask_16 : decode cX7_ask 16 = .ok (.ifCond .ne 9, 3) := by decide +kernel
theorem dX7_ask_19 : decode cX7_ask 19 = .ok (.ldc2_w 138, 3) := by decide +kernel
theorem dX7_ask_22 : decode cX7_ask 22 = .ok (.goto 15, 3) := by decide +kernel
theorem dX7_ask_25 : decode cX7_ask 25 = .ok (.iload_n 1, 1) := by decide +kernel
theorem dX7_ask_26 : decode cX7_ask 26 = .ok (.iconst 1, 1) := by decide +kernel
theorem dX7_ask_27 : decode cX7_ask 27 = .ok (.if_icmp .ne 9, 3) := by decide +kernel
theorem dX7_ask_30 : decode cX7_ask 30 = .ok (.ldc2_w 120, 3) := by decide +kernel
theorem dX7_ask_33 : decode cX7_ask 33 = .ok (.goto 4, 3) := by decide +kernel
theorem dX7_ask_36 : decode cX7_ask 36 = .ok (.lconst 1, 1) := by decide +kernel
theorem dX7_ask_37 : decode cX7_ask 37 = .ok (.invokestatic 62, 3) := by decide +kernel
theorem dX7_ask_40 : decode cX7_ask 40 = .ok (.ifCond .ne 10, 3) := by decide +kernel
theorem dX7_ask_43 : decode cX7_ask 43 = .ok (.aload_n 0, 1) := by decide +kernel
theorem dX7_ask_44 : decode cX7_ask 44 = .ok (.bipush (-2), 2) := by decide +kernel
theorem dX7_ask_46 : decode cX7_ask 46 = .ok (.invokevirtual 89, 3) := by decide +kernel
theorem dX7_ask_49 : decode cX7_ask 49 = .ok (.ireturn, 1) := by decide +kernel
theorem dX7_ask_50 : decode cX7_ask 50 = .ok (.aload_n 0, 1) := by decide +kernel
theorem dX7_ask_51 : decode cX7_ask 51 = .ok (.getfield 51, 3) := by decide +kernel
theorem dX7_ask_54 : decode cX7_ask 54 = .ok (.iload_n 1, 1) := by decide +kernel
theorem dX7_ask_55 : decode cX7_ask 55 = .ok (.iaload, 1) := by decide +kernel
theorem dX7_ask_56 : decode cX7_ask 56 = .ok (.istore_n 3, 1) := by decide +kernel
theorem dX7_ask_57 : decode cX7_ask 57 = .ok (.aload_n 0, 1) := by decide +kernel
theorem dX7_ask_58 : decode cX7_ask 58 = .ok (.getfield 51, 3) := by decide +kernel
theorem dX7_ask_61 : decode cX7_ask 61 = .ok (.iload_n 1, 1) := by decide +kernel
theorem dX7_ask_62 : decode cX7_ask 62 = .ok (.iload_n 2, 1) := by decide +kernel
theorem dX7_ask_63 : decode cX7_ask 63 = .ok (.iastore, 1) := by decide +kernel
theorem dX7_ask_64 : decode cX7_ask 64 = .ok (.iload_n 3, 1) := by decide +kernel
theorem dX7_ask_65 : decode cX7_ask 65 = .ok (.ireturn, 1) := by decide +kernel
theorem dX7_feed_0 : decode cX7_feed 0 = .ok (.iload_n 2, 1) := by decide +kernel
theorem dX7_feed_1 : decode cX7_feed 1 = .ok (.i2l, 1) := by decide +kernel
theorem dX7_feed_2 : decode cX7_feed 2 = .ok (.lconst 1, 1) := by decide +kernel
theorem dX7_feed_3 : decode cX7_feed 3 = .ok (.ldc2_w 85, 3) := by decide +kernel
theorem dX7_feed_6 : decode cX7_feed 6 = .ok (.invokestatic 62, 3) := by decide +kernel
theorem dX7_feed_9 : decode cX7_feed 9 = .ok (.ifCond .ne 10, 3) := by decide +kernel
theorem dX7_feed_12 : decode cX7_feed 12 = .ok (.aload_n 0, 1) := by decide +kernel
theorem dX7_feed_13 : decode cX7_feed 13 = .ok (.bipush (-2), 2) := by decide +kernel
theorem dX7_feed_15 : decode cX7_feed 15 = .ok (.invokevirtual 89, 3) := by decide +kernel
theorem dX7_feed_18 : decode cX7_feed 18 = .ok (.ireturn, 1) := by decide +kernel
theorem dX7_feed_19 : decode cX7_feed 19 = .ok (.iload_n 2, 1) := by decide +kernel
theorem dX7_feed_20 : decode cX7_feed 20 = .ok (.sipush 250, 3) := by decide +kernel
theorem dX7_feed_23 : decode cX7_feed 23 = .ok (.aload_n 0, 1) := by decide +kernel
theorem dX7_feed_24 : decode cX7_feed 24 = .ok (.getfield 140, 3) := by decide +kernel
theorem dX7_feed_27 : decode cX7_feed 27 = .ok (.isub, 1) := by decide +kernel
theorem dX7_feed_28 : decode cX7_feed 28 = .ok (.if_icmp .le 10, 3) := by decide +kernel
theorem dX7_feed_38 : decode cX7_feed 38 = .ok (.iload_n 2, 1) := by decide +kernel
theorem dX7_feed_39 : decode cX7_feed 39 = .ok (.iconst 1, 1) := by decide +kernel
theorem dX7_feed_40 : decode cX7_feed 40 = .ok (.isub, 1) := by decide +kernel
theorem dX7_feed_41 : decode cX7_feed 41 = .ok (.istore_n 3, 1) := by decide +kernel
theorem dX7_feed_42 : decode cX7_feed 42 = .ok (.iload_n 3, 1) := by decide +kernel
theorem dX7_feed_43 : decode cX7_feed 43 = .ok (.ifCond .lt 35, 3) := by decide +kernel
theorem dX7_feed_46 : decode cX7_feed 46 = .ok (.aload_n 0, 1) := by decide +kernel
theorem dX7_feed_47 : decode cX7_feed 47 = .ok (.getfield 31, 3) := by decide +kernel
theorem dX7_feed_50 : decode cX7_feed 50 = .ok (.aload_n 0, 1) := by decide +kernel
theorem dX7_feed_51 : decode cX7_feed 51 = .ok (.dup, 1) := by decide +kernel
theorem dX7_feed_52 : decode cX7_feed 52 = .ok (.getfield 140, 3) := by decide +kernel
theorem dX7_feed_55 : decode cX7_feed 55 = .ok (.dup_x1, 1) := by decide +kernel
theorem dX7_feed_56 : decode cX7_feed 56 = .ok (.iconst 1, 1) := by decide +kernel
theorem dX7_feed_57 : decode cX7_feed 57 = .ok (.iadd, 1) := by decide +kernel
theorem dX7_feed_58 : decode cX7_feed 58 = .ok (.putfield 140, 3) := by decide +kernel
theorem dX7_feed_61 : decode cX7_feed 61 = .ok (.iload_n 1, 1) := by decide +kernel
theorem dX7_feed_62 : decode cX7_feed 62 = .ok (.bipush 8, 2) := by decide +kernel
theorem dX7_feed_64 : decode cX7_feed 64 = .ok (.iload_n 3, 1) := by decide +kernel
theorem dX7_feed_65 : decode cX7_feed 65 = .ok (.imul, 1) := by decide +kernel
theorem dX7_feed_66 : decode cX7_feed 66 = .ok (.ishr, 1) := by decide +kernel
theorem dX7_feed_67 : decode cX7_feed 67 = .ok (.sipush 255, 3) := by decide +kernel
theorem dX7_feed_70 : decode cX7_feed 70 = .ok (.iand, 1) := by decide +kernel
theorem dX7_feed_71 : decode cX7_feed 71 = .ok (.iastore, 1) := by decide +kernel
theorem dX7_feed_72 : decode cX7_feed 72 = .ok (.iinc 3 (-1), 3) := by decide +kernel
theorem dX7_feed_75 : decode cX7_feed 75 = .ok (.goto (-33), 3) := by decide +kernel
theorem dX7_feed_78 : decode cX7_feed 78 = .ok (.aload_n 0, 1) := by decide +kernel
theorem dX7_feed_79 : decode cX7_feed 79 = .ok (.getfield 140, 3) := by decide +kernel
theorem dX7_feed_82 : decode cX7_feed 82 = .ok (.ireturn, 1) := by decide +kernel
theorem dX7_isWord_0 : decode cX7_isWord 0 = .ok (.aload_n 0, 1) := by decide +kernel
theorem dX7_isWord_1 : decode cX7_isWord 1 = .ok (.getfield 153, 3) := by decide +kernel
theorem dX7_isWord_4 : decode cX7_isWord 4 = .ok (.iconst 1, 1) := by decide +kernel
theorem dX7_isWord_5 : decode cX7_isWord 5 = .ok (.if_icmp .ne 19, 3) := by decide +kernel
theorem dX7_isWord_24 : decode cX7_isWord 24 = .ok (.iconst 0, 1) := by decide +kernel
theorem dX7_isWord_25 : decode cX7_isWord 25 = .ok (.ireturn, 1) := by decide +kernel
theorem dX7_land_0 : decode cX7_land 0 = .ok (.aload_n 0, 1) := by decide +kernel
theorem dX7_land_1 : decode cX7_land 1 = .ok (.getfield 66, 3) := by decide +kernel
theorem dX7_land_4 : decode cX7_land 4 = .ok (.istore_n 1, 1) := by decide +kernel
theorem dX7_land_5 : decode cX7_land 5 = .ok (.aload_n 0, 1) := by decide +kernel
theorem dX7_land_6 : decode cX7_land 6 = .ok (.getfield 70, 3) := by decide +kernel
theorem dX7_land_9 : decode cX7_land 9 = .ok (.istore_n 2, 1) := by decide +kernel
theorem dX7_land_10 : decode cX7_land 10 = .ok (.aload_n 0, 1) := by decide +kernel
theorem dX7_land_11 : decode cX7_land 11 = .ok (.getfield 73, 3) := by decide +kernel
theorem dX7_land_14 : decode cX7_land 14 = .ok (.istore_n 3, 1) := by decide +kernel
theorem dX7_land_15 : decode cX7_land 15 = .ok (.aload_n 0, 1) := by decide +kernel
theorem dX7_land_16 : decode cX7_land 16 = .ok (.getfield 80, 3) := by decide +kernel
theorem dX7_land_19 : decode cX7_land 19 = .ok (.istore 4, 2) := by decide +kernel
theorem dX7_land_21 : decode cX7_land 21 = .ok (.aload_n 0, 1) := by decide +kernel
theorem dX7_land_22 : decode cX7_land 22 = .ok (.getfield 51, 3) := by decide +kernel
theorem dX7_land_25 : decode cX7_land 25 = .ok (.iconst 0, 1) := by decide +kernel
theorem dX7_land_26 : decode cX7_land 26 = .ok (.iaload, 1) := by decide +kernel
theorem dX7_land_27 : decode cX7_land 27 = .ok (.istore 5, 2) := by decide +kernel
theorem dX7_land_29 : decode cX7_land 29 = .ok (.aload_n 0, 1) := by decide +kernel
theorem dX7_land_30 : decode cX7_land 30 = .ok (.getfield 51, 3) := by decide +kernel
theorem dX7_land_33 : decode cX7_land 33 = .ok (.iconst 1, 1) := by decide +kernel
theorem dX7_land_34 : decode cX7_land 34 = .ok (.iaload, 1) := by decide +kernel
theorem dX7_land_35 : decode cX7_land 35 = .ok (.istore 6, 2) := by decide +kernel
theorem dX7_land_37 : decode cX7_land 37 = .ok (.aload_n 0, 1) := by decide +kernel
theorem dX7_land_38 : decode cX7_land 38 = .ok (.invokevirtual 246, 3) := by decide +kernel
theorem dX7_land_41 : decode cX7_land 41 = .ok (.istore 7, 2) := by decide +kernel
theorem dX7_land_43 : decode cX7_land 43 = .ok (.aload_n 0, 1) := by decide +kernel
theorem dX7_land_44 : decode cX7_land 44 = .ok (.iconst 0, 1) := by decide +kernel
theorem dX7_land_45 : decode cX7_land 45 = .ok (.putfield 140, 3) := by decide +kernel
theorem dX7_land_48 : decode cX7_land 48 = .ok (.iload 7, 2) := by decide +kernel
theorem dX7_land_50 : decode cX7_land 50 = .ok (.ifCond .ne 55, 3) := by decide +kernel
theorem dX7_land_53 : decode cX7_land 53 = .ok (.aload_n 0, 1) := by decide +kernel
theorem dX7_land_54 : decode cX7_land 54 = .ok (.iload_n 1, 1) := by decide +kernel
theorem dX7_land_55 : decode cX7_land 55 = .ok (.putfield 66, 3) := by decide +kernel
theorem dX7_land_58 : decode cX7_land 58 = .ok (.aload_n 0, 1) := by decide +kernel
theorem dX7_land_59 : decode cX7_land 59 = .ok (.iload_n 2, 1) := by decide +kernel
theorem dX7_land_60 : decode cX7_land 60 = .ok (.putfield 70, 3) := by decide +kernel
theorem dX7_land_63 : decode cX7_land 63 = .ok (.aload_n 0, 1) := by decide +kernel
theorem dX7_land_64 : decode cX7_land 64 = .ok (.iload_n 3, 1) := by decide +kernel
theorem dX7_land_65 : decode cX7_land 65 = .ok (.putfield 73, 3) := by decide +kernel
theorem dX7_land_68 : decode cX7_land 68 = .ok (.aload_n 0, 1) := by decide +kernel
theorem dX7_land_69 : decode cX7_land 69 = .ok (.iload 4, 2) := by decide +kernel
theorem dX7_land_71 : decode cX7_land 71 = .ok (.putfield 80, 3) := by decide +kernel
theorem dX7_land_74 : decode cX7_land 74 = .ok (.aload_n 0, 1) := by decide +kernel
theorem dX7_land_75 : decode cX7_land 75 = .ok (.getfield 51, 3) := by decide +kernel
theorem dX7_land_78 : decode cX7_land 78 = .ok (.iconst 0, 1) := by decide +kernel
theorem dX7_land_79 : decode cX7_land 79 = .ok (.iload 5, 2) := by decide +kernel
theorem dX7_land_81 : decode cX7_land 81 = .ok (.iastore, 1) := by decide +kernel
theorem dX7_land_82 : decode cX7_land 82 = .ok (.aload_n 0, 1) := by decide +kernel
theorem dX7_land_83 : decode cX7_land 83 = .ok (.getfield 51, 3) := by decide +kernel
theorem dX7_land_86 : decode cX7_land 86 = .ok (.iconst 1, 1) := by decide +kernel
theorem dX7_land_87 : decode cX7_land 87 = .ok (.iload 6, 2) := by decide +kernel
theorem dX7_land_89 : decode cX7_land 89 = .ok (.iastore, 1) := by decide +kernel
theorem dX7_land_90 : decode cX7_land 90 = .ok (.aload_n 0, 1) := by decide +kernel
theorem dX7_land_91 : decode cX7_land 91 = .ok (.bipush (-2), 2) := by decide +kernel
theorem dX7_land_93 : decode cX7_land 93 = .ok (.invokevirtual 89, 3) := by decide +kernel
theorem dX7_land_96 : decode cX7_land 96 = .ok (.pop, 1) := by decide +kernel
theorem dX7_land_97 : decode cX7_land 97 = .ok (.bipush (-20), 2) := by decide +kernel
theorem dX7_land_99 : decode cX7_land 99 = .ok (.aload_n 0, 1) := by decide +kernel
theorem dX7_land_100 : decode cX7_land 100 = .ok (.getfield 168, 3) := by decide +kernel
theorem dX7_land_103 : decode cX7_land 103 = .ok (.isub, 1) := by decide +kernel
theorem dX7_land_104 : decode cX7_land 104 = .ok (.ireturn, 1) := by decide +kernel
theorem dX7_look_0 : decode cX7_look 0 = .ok (.aload_n 0, 1) := by decide +kernel
theorem dX7_look_1 : decode cX7_look 1 = .ok (.getfield 143, 3) := by decide +kernel
theorem dX7_look_4 : decode cX7_look 4 = .ok (.aload_n 0, 1) := by decide +kernel
theorem dX7_look_5 : decode cX7_look 5 = .ok (.getfield 140, 3) := by decide +kernel
theorem dX7_look_8 : decode cX7_look 8 = .ok (.if_icmp .ge 30, 3) := by decide +kernel
theorem dX7_look_38 : decode cX7_look 38 = .ok (.aload_n 0, 1) := by decide +kernel
theorem dX7_look_39 : decode cX7_look 39 = .ok (.aload_n 0, 1) := by decide +kernel
theorem dX7_look_40 : decode cX7_look 40 = .ok (.getfield 143, 3) := by decide +kernel
theorem dX7_look_43 : decode cX7_look 43 = .ok (.putfield 146, 3) := by decide +kernel
theorem dX7_look_46 : decode cX7_look 46 = .ok (.aload_n 0, 1) := by decide +kernel
theorem dX7_look_47 : decode cX7_look 47 = .ok (.lconst 0, 1) := by decide +kernel
theorem dX7_look_48 : decode cX7_look 48 = .ok (.putfield 149, 3) := by decide +kernel
theorem dX7_look_51 : decode cX7_look 51 = .ok (.aload_n 0, 1) := by decide +kernel
theorem dX7_look_52 : decode cX7_look 52 = .ok (.getfield 143, 3) := by decide +kernel
theorem dX7_look_55 : decode cX7_look 55 = .ok (.aload_n 0, 1) := by decide +kernel
theorem dX7_look_56 : decode cX7_look 56 = .ok (.getfield 140, 3) := by decide +kernel
theorem dX7_look_59 : decode cX7_look 59 = .ok (.if_icmp .ne 11, 3) := by decide +kernel
theorem dX7_look_62 : decode cX7_look 62 = .ok (.aload_n 0, 1) := by decide +kernel
theorem dX7_look_63 : decode cX7_look 63 = .ok (.iconst 0, 1) := by decide +kernel
theorem dX7_look_64 : decode cX7_look 64 = .ok (.putfield 153, 3) := by decide +kernel
theorem dX7_look_67 : decode cX7_look 67 = .ok (.goto 200, 3) := by decide +kernel
theorem dX7_look_267 : decode cX7_look 267 = .ok (.return_, 1) := by decide +kernel
theorem dX7_newRoad_0 : decode cX7_newRoad 0 = .ok (.aload_n 0, 1) := by decide +kernel
theorem dX7_newRoad_1 : decode cX7_newRoad 1 = .ok (.getfield 39, 3) := by decide +kernel
theorem dX7_newRoad_4 : decode cX7_newRoad 4 = .ok (.aload_n 0, 1) := by decide +kernel
theorem dX7_newRoad_5 : decode cX7_newRoad 5 = .ok (.getfield 66, 3) := by decide +kernel
theorem dX7_newRoad_8 : decode cX7_newRoad 8 = .ok (.aaload, 1) := by decide +kernel
theorem dX7_newRoad_9 : decode cX7_newRoad 9 = .ok (.astore_n 3, 1) := by decide +kernel
theorem dX7_newRoad_10 : decode cX7_newRoad 10 = .ok (.aload_n 3, 1) := by decide +kernel
theorem dX7_newRoad_11 : decode cX7_newRoad 11 = .ok (.iconst 0, 1) := by decide +kernel
theorem dX7_newRoad_12 : decode cX7_newRoad 12 = .ok (.iload_n 1, 1) := by decide +kernel
theorem dX7_newRoad_13 : decode cX7_newRoad 13 = .ok (.iastore, 1) := by decide +kernel
theorem dX7_newRoad_14 : decode cX7_newRoad 14 = .ok (.aload_n 3, 1) := by decide +kernel
theorem dX7_newRoad_15 : decode cX7_newRoad 15 = .ok (.iconst 1, 1) := by decide +kernel
theorem dX7_newRoad_16 : decode cX7_newRoad 16 = .ok (.iload_n 2, 1) := by decide +kernel
theorem dX7_newRoad_17 : decode cX7_newRoad 17 = .ok (.iastore, 1) := by decide +kernel
theorem dX7_newRoad_18 : decode cX7_newRoad 18 = .ok (.aload_n 3, 1) := by decide +kernel
theorem dX7_newRoad_19 : decode cX7_newRoad 19 = .ok (.iconst 2, 1) := by decide +kernel
theorem dX7_newRoad_20 : decode cX7_newRoad 20 = .ok (.iconst 0, 1) := by decide +kernel
theorem dX7_newRoad_21 : decode cX7_newRoad 21 = .ok (.iastore, 1) := by decide +kernel
theorem dX7_newRoad_22 : decode cX7_newRoad 22 = .ok (.aload_n 3, 1) := by decide +kernel
theorem dX7_newRoad_23 : decode cX7_newRoad 23 = .ok (.iconst 3, 1) := by decide +kernel
theorem dX7_newRoad_24 : decode cX7_newRoad 24 = .ok (.iconst 0, 1) := by decide +kernel
theorem dX7_newRoad_25 : decode cX7_newRoad 25 = .ok (.iastore, 1) := by decide +kernel
theorem dX7_newRoad_26 : decode cX7_newRoad 26 = .ok (.aload_n 3, 1) := by decide +kernel
theorem dX7_newRoad_27 : decode cX7_newRoad 27 = .ok (.iconst 4, 1) := by decide +kernel
theorem dX7_newRoad_28 : decode cX7_newRoad 28 = .ok (.bipush 99, 2) := by decide +kernel
theorem dX7_newRoad_30 : decode cX7_newRoad 30 = .ok (.iastore, 1) := by decide +kernel
theorem dX7_newRoad_31 : decode cX7_newRoad 31 = .ok (.aload_n 3, 1) := by decide +kernel
theorem dX7_newRoad_32 : decode cX7_newRoad 32 = .ok (.iconst 5, 1) := by decide +kernel
theorem dX7_newRoad_33 : decode cX7_newRoad 33 = .ok (.iconst 0, 1) := by decide +kernel
theorem dX7_newRoad_34 : decode cX7_newRoad 34 = .ok (.iastore, 1) := by decide +kernel
theorem dX7_newRoad_35 : decode cX7_newRoad 35 = .ok (.aload_n 3, 1) := by decide +kernel
theorem dX7_newRoad_36 : decode cX7_newRoad 36 = .ok (.bipush 6, 2) := by decide +kernel
theorem dX7_newRoad_38 : decode cX7_newRoad 38 = .ok (.iconst 0, 1) := by decide +kernel
theorem dX7_newRoad_39 : decode cX7_newRoad 39 = .ok (.iastore, 1) := by decide +kernel
theorem dX7_newRoad_40 : decode cX7_newRoad 40 = .ok (.return_, 1) := by decide +kernel
theorem dX7_part_0 : decode cX7_part 0 = .ok (.iload_n 1, 1) := by decide +kernel
theorem dX7_part_1 : decode cX7_part 1 = .ok (.i2l, 1) := by decide +kernel
theorem dX7_part_2 : decode cX7_part 2 = .ok (.lconst 1, 1) := by decide +kernel
theorem dX7_part_3 : decode cX7_part 3 = .ok (.ldc2_w 120, 3) := by decide +kernel
theorem dX7_part_6 : decode cX7_part 6 = .ok (.invokestatic 62, 3) := by decide +kernel
theorem dX7_part_9 : decode cX7_part 9 = .ok (.ifCond .eq 15, 3) := by decide +kernel
theorem dX7_part_12 : decode cX7_part 12 = .ok (.iload_n 2, 1) := by decide +kernel
theorem dX7_part_13 : decode cX7_part 13 = .ok (.i2l, 1) := by decide +kernel
theorem dX7_part_14 : decode cX7_part 14 = .ok (.lconst 0, 1) := by decide +kernel
theorem dX7_part_15 : decode cX7_part 15 = .ok (.ldc2_w 120, 3) := by decide +kernel
theorem dX7_part_18 : decode cX7_part 18 = .ok (.invokestatic 62, 3) := by decide +kernel
theorem dX7_part_21 : decode cX7_part 21 = .ok (.ifCond .ne 10, 3) := by decide +kernel
theorem dX7_part_24 : decode cX7_part 24 = .ok (.aload_n 0, 1) := by decide +kernel
theorem dX7_part_25 : decode cX7_part 25 = .ok (.bipush (-2), 2) := by decide +kernel
theorem dX7_part_27 : decode cX7_part 27 = .ok (.invokevirtual 89, 3) := by decide +kernel
theorem dX7_part_30 : decode cX7_part 30 = .ok (.ireturn, 1) := by decide +kernel
theorem dX7_part_31 : decode cX7_part 31 = .ok (.aload_n 0, 1) := by decide +kernel
theorem dX7_part_32 : decode cX7_part 32 = .ok (.getfield 80, 3) := by decide +kernel
theorem dX7_part_35 : decode cX7_part 35 = .ok (.iconst 5, 1) := by decide +kernel
theorem dX7_part_36 : decode cX7_part 36 = .ok (.if_icmp .ne 10, 3) := by decide +kernel
theorem dX7_part_46 : decode cX7_part 46 = .ok (.aload_n 0, 1) := by decide +kernel
theorem dX7_part_47 : decode cX7_part 47 = .ok (.getfield 48, 3) := by decide +kernel
theorem dX7_part_50 : decode cX7_part 50 = .ok (.aload_n 0, 1) := by decide +kernel
theorem dX7_part_51 : decode cX7_part 51 = .ok (.getfield 80, 3) := by decide +kernel
theorem dX7_part_54 : decode cX7_part 54 = .ok (.aaload, 1) := by decide +kernel
theorem dX7_part_55 : decode cX7_part 55 = .ok (.iconst 0, 1) := by decide +kernel
theorem dX7_part_56 : decode cX7_part 56 = .ok (.iload_n 1, 1) := by decide +kernel
theorem dX7_part_57 : decode cX7_part 57 = .ok (.iastore, 1) := by decide +kernel
theorem dX7_part_58 : decode cX7_part 58 = .ok (.aload_n 0, 1) := by decide +kernel
theorem dX7_part_59 : decode cX7_part 59 = .ok (.getfield 48, 3) := by decide +kernel
theorem dX7_part_62 : decode cX7_part 62 = .ok (.aload_n 0, 1) := by decide +kernel
theorem dX7_part_63 : decode cX7_part 63 = .ok (.getfield 80, 3) := by decide +kernel
theorem dX7_part_66 : decode cX7_part 66 = .ok (.aaload, 1) := by decide +kernel
theorem dX7_part_67 : decode cX7_part 67 = .ok (.iconst 1, 1) := by decide +kernel
theorem dX7_part_68 : decode cX7_part 68 = .ok (.iload_n 2, 1) := by decide +kernel
theorem dX7_part_69 : decode cX7_part 69 = .ok (.iastore, 1) := by decide +kernel
theorem dX7_part_70 : decode cX7_part 70 = .ok (.aload_n 0, 1) := by decide +kernel
theorem dX7_part_71 : decode cX7_part 71 = .ok (.dup, 1) := by decide +kernel
theorem dX7_part_72 : decode cX7_part 72 = .ok (.getfield 80, 3) := by decide +kernel
theorem dX7_part_75 : decode cX7_part 75 = .ok (.dup_x1, 1) := by decide +kernel
theorem dX7_part_76 : decode cX7_part 76 = .ok (.iconst 1, 1) := by decide +kernel
theorem dX7_part_77 : decode cX7_part 77 = .ok (.iadd, 1) := by decide +kernel
theorem dX7_part_78 : decode cX7_part 78 = .ok (.putfield 80, 3) := by decide +kernel
theorem dX7_part_81 : decode cX7_part 81 = .ok (.ireturn, 1) := by decide +kernel
theorem dX7_read_0 : decode cX7_read 0 = .ok (.aload_n 0, 1) := by decide +kernel
theorem dX7_read_1 : decode cX7_read 1 = .ok (.iconst 1, 1) := by decide +kernel
theorem dX7_read_2 : decode cX7_read 2 = .ok (.putfield 240, 3) := by decide +kernel
theorem dX7_read_5 : decode cX7_read 5 = .ok (.aload_n 0, 1) := by decide +kernel
theorem dX7_read_6 : decode cX7_read 6 = .ok (.iconst 0, 1) := by decide +kernel
theorem dX7_read_7 : decode cX7_read 7 = .ok (.putfield 143, 3) := by decide +kernel
theorem dX7_read_10 : decode cX7_read 10 = .ok (.aload_n 0, 1) := by decide +kernel
theorem dX7_read_11 : decode cX7_read 11 = .ok (.invokevirtual 185, 3) := by decide +kernel
theorem dX7_read_14 : decode cX7_read 14 = .ok (.aload_n 0, 1) := by decide +kernel
theorem dX7_read_15 : decode cX7_read 15 = .ok (.invokevirtual 243, 3) := by decide +kernel
theorem dX7_read_18 : decode cX7_read 18 = .ok (.ifCond .ne 5, 3) := by decide +kernel
theorem dX7_read_21 : decode cX7_read 21 = .ok (.iconst 0, 1) := by decide +kernel
theorem dX7_read_22 : decode cX7_read 22 = .ok (.ireturn, 1) := by decide +kernel
theorem dX7_road_0 : decode cX7_road 0 = .ok (.iload_n 1, 1) := by decide +kernel
theorem dX7_road_1 : decode cX7_road 1 = .ok (.invokestatic 113, 3) := by decide +kernel
theorem dX7_road_4 : decode cX7_road 4 = .ok (.ifCond .eq 44, 3) := by decide +kernel
theorem dX7_road_7 : decode cX7_road 7 = .ok (.iload_n 2, 1) := by decide +kernel
theorem dX7_road_8 : decode cX7_road 8 = .ok (.invokestatic 113, 3) := by decide +kernel
theorem dX7_road_11 : decode cX7_road 11 = .ok (.ifCond .eq 37, 3) := by decide +kernel
theorem dX7_road_14 : decode cX7_road 14 = .ok (.iload_n 1, 1) := by decide +kernel
theorem dX7_road_15 : decode cX7_road 15 = .ok (.iload_n 2, 1) := by decide +kernel
theorem dX7_road_16 : decode cX7_road 16 = .ok (.if_icmp .eq 32, 3) := by decide +kernel
theorem dX7_road_19 : decode cX7_road 19 = .ok (.iload_n 3, 1) := by decide +kernel
theorem dX7_road_20 : decode cX7_road 20 = .ok (.i2l, 1) := by decide +kernel
theorem dX7_road_21 : decode cX7_road 21 = .ok (.lconst 1, 1) := by decide +kernel
theorem dX7_road_22 : decode cX7_road 22 = .ok (.ldc2_w 116, 3) := by decide +kernel
theorem dX7_road_25 : decode cX7_road 25 = .ok (.invokestatic 62, 3) := by decide +kernel
theorem dX7_road_28 : decode cX7_road 28 = .ok (.ifCond .eq 20, 3) := by decide +kernel
theorem dX7_road_31 : decode cX7_road 31 = .ok (.iload 4, 2) := by decide +kernel
theorem dX7_road_33 : decode cX7_road 33 = .ok (.i2l, 1) := by decide +kernel
theorem dX7_road_34 : decode cX7_road 34 = .ok (.lconst 0, 1) := by decide +kernel
theorem dX7_road_35 : decode cX7_road 35 = .ok (.ldc2_w 118, 3) := by decide +kernel
theorem dX7_road_38 : decode cX7_road 38 = .ok (.invokestatic 62, 3) := by decide +kernel
theorem dX7_road_41 : decode cX7_road 41 = .ok (.ifCond .eq 7, 3) := by decide +kernel
theorem dX7_road_44 : decode cX7_road 44 = .ok (.iconst 1, 1) := by decide +kernel
theorem dX7_road_45 : decode cX7_road 45 = .ok (.goto 4, 3) := by decide +kernel
theorem dX7_road_48 : decode cX7_road 48 = .ok (.iconst 0, 1) := by decide +kernel
theorem dX7_road_49 : decode cX7_road 49 = .ok (.istore 7, 2) := by decide +kernel
theorem dX7_road_51 : decode cX7_road 51 = .ok (.iload 7, 2) := by decide +kernel
theorem dX7_road_53 : decode cX7_road 53 = .ok (.ifCond .eq 29, 3) := by decide +kernel
theorem dX7_road_56 : decode cX7_road 56 = .ok (.iload 5, 2) := by decide +kernel
theorem dX7_road_58 : decode cX7_road 58 = .ok (.i2l, 1) := by decide +kernel
theorem dX7_road_59 : decode cX7_road 59 = .ok (.lconst 1, 1) := by decide +kernel
theorem dX7_road_60 : decode cX7_road 60 = .ok (.ldc2_w 120, 3) := by decide +kernel
theorem dX7_road_63 : decode cX7_road 63 = .ok (.invokestatic 62, 3) := by decide +kernel
theorem dX7_road_66 : decode cX7_road 66 = .ok (.ifCond .eq 16, 3) := by decide +kernel
theorem dX7_road_69 : decode cX7_road 69 = .ok (.iload 6, 2) := by decide +kernel
theorem dX7_road_71 : decode cX7_road 71 = .ok (.i2l, 1) := by decide +kernel
theorem dX7_road_72 : decode cX7_road 72 = .ok (.lconst 0, 1) := by decide +kernel
theorem dX7_road_73 : decode cX7_road 73 = .ok (.ldc2_w 60, 3) := by decide +kernel
theorem dX7_road_76 : decode cX7_road 76 = .ok (.invokestatic 62, 3) := by decide +kernel
theorem dX7_road_79 : decode cX7_road 79 = .ok (.ifCond .ne 10, 3) := by decide +kernel
theorem dX7_road_82 : decode cX7_road 82 = .ok (.aload_n 0, 1) := by decide +kernel
theorem dX7_road_83 : decode cX7_road 83 = .ok (.bipush (-2), 2) := by decide +kernel
theorem dX7_road_85 : decode cX7_road 85 = .ok (.invokevirtual 89, 3) := by decide +kernel
theorem dX7_road_88 : decode cX7_road 88 = .ok (.ireturn, 1) := by decide +kernel
theorem dX7_road_89 : decode cX7_road 89 = .ok (.aload_n 0, 1) := by decide +kernel
theorem dX7_road_90 : decode cX7_road 90 = .ok (.getfield 66, 3) := by decide +kernel
theorem dX7_road_93 : decode cX7_road 93 = .ok (.bipush 24, 2) := by decide +kernel
theorem dX7_road_95 : decode cX7_road 95 = .ok (.if_icmp .ne 10, 3) := by decide +kernel
theorem dX7_road_105 : decode cX7_road 105 = .ok (.aload_n 0, 1) := by decide +kernel
theorem dX7_road_106 : decode cX7_road 106 = .ok (.iload_n 1, 1) := by decide +kernel
theorem dX7_road_107 : decode cX7_road 107 = .ok (.iload_n 2, 1) := by decide +kernel
theorem dX7_road_108 : decode cX7_road 108 = .ok (.invokevirtual 122, 3) := by decide +kernel
theorem dX7_road_111 : decode cX7_road 111 = .ok (.aload_n 0, 1) := by decide +kernel
theorem dX7_road_112 : decode cX7_road 112 = .ok (.getfield 39, 3) := by decide +kernel
theorem dX7_road_115 : decode cX7_road 115 = .ok (.aload_n 0, 1) := by decide +kernel
theorem dX7_road_116 : decode cX7_road 116 = .ok (.getfield 66, 3) := by decide +kernel
theorem dX7_road_119 : decode cX7_road 119 = .ok (.aaload, 1) := by decide +kernel
theorem dX7_road_120 : decode cX7_road 120 = .ok (.iconst 2, 1) := by decide +kernel
theorem dX7_road_121 : decode cX7_road 121 = .ok (.iload_n 3, 1) := by decide +kernel
theorem dX7_road_122 : decode cX7_road 122 = .ok (.iastore, 1) := by decide +kernel
theorem dX7_road_123 : decode cX7_road 123 = .ok (.aload_n 0, 1) := by decide +kernel
theorem dX7_road_124 : decode cX7_road 124 = .ok (.getfield 39, 3) := by decide +kernel
theorem dX7_road_127 : decode cX7_road 127 = .ok (.aload_n 0, 1) := by decide +kernel
theorem dX7_road_128 : decode cX7_road 128 = .ok (.getfield 66, 3) := by decide +kernel
theorem dX7_road_131 : decode cX7_road 131 = .ok (.aaload, 1) := by decide +kernel
theorem dX7_road_132 : decode cX7_road 132 = .ok (.iconst 3, 1) := by decide +kernel
theorem dX7_road_133 : decode cX7_road 133 = .ok (.iload 4, 2) := by decide +kernel
theorem dX7_road_135 : decode cX7_road 135 = .ok (.iastore, 1) := by decide +kernel
theorem dX7_road_136 : decode cX7_road 136 = .ok (.aload_n 0, 1) := by decide +kernel
theorem dX7_road_137 : decode cX7_road 137 = .ok (.getfield 39, 3) := by decide +kernel
theorem dX7_road_140 : decode cX7_road 140 = .ok (.aload_n 0, 1) := by decide +kernel
theorem dX7_road_141 : decode cX7_road 141 = .ok (.getfield 66, 3) := by decide +kernel
theorem dX7_road_144 : decode cX7_road 144 = .ok (.aaload, 1) := by decide +kernel
theorem dX7_road_145 : decode cX7_road 145 = .ok (.iconst 4, 1) := by decide +kernel
theorem dX7_road_146 : decode cX7_road 146 = .ok (.iload 5, 2) := by decide +kernel
theorem dX7_road_148 : decode cX7_road 148 = .ok (.iastore, 1) := by decide +kernel
theorem dX7_road_149 : decode cX7_road 149 = .ok (.aload_n 0, 1) := by decide +kernel
theorem dX7_road_150 : decode cX7_road 150 = .ok (.getfield 39, 3) := by decide +kernel
theorem dX7_road_153 : decode cX7_road 153 = .ok (.aload_n 0, 1) := by decide +kernel
theorem dX7_road_154 : decode cX7_road 154 = .ok (.getfield 66, 3) := by decide +kernel
theorem dX7_road_157 : decode cX7_road 157 = .ok (.aaload, 1) := by decide +kernel
theorem dX7_road_158 : decode cX7_road 158 = .ok (.iconst 5, 1) := by decide +kernel
theorem dX7_road_159 : decode cX7_road 159 = .ok (.iload 6, 2) := by decide +kernel
theorem dX7_road_161 : decode cX7_road 161 = .ok (.iastore, 1) := by decide +kernel
theorem dX7_road_162 : decode cX7_road 162 = .ok (.aload_n 0, 1) := by decide +kernel
theorem dX7_road_163 : decode cX7_road 163 = .ok (.dup, 1) := by decide +kernel
theorem dX7_road_164 : decode cX7_road 164 = .ok (.getfield 66, 3) := by decide +kernel
theorem dX7_road_167 : decode cX7_road 167 = .ok (.dup_x1, 1) := by decide +kernel
theorem dX7_road_168 : decode cX7_road 168 = .ok (.iconst 1, 1) := by decide +kernel
theorem dX7_road_169 : decode cX7_road 169 = .ok (.iadd, 1) := by decide +kernel
theorem dX7_road_170 : decode cX7_road 170 = .ok (.putfield 66, 3) := by decide +kernel
theorem dX7_road_173 : decode cX7_road 173 = .ok (.ireturn, 1) := by decide +kernel
theorem dX7_row_0 : decode cX7_row 0 = .ok (.iload_n 1, 1) := by decide +kernel
theorem dX7_row_1 : decode cX7_row 1 = .ok (.i2l, 1) := by decide +kernel
theorem dX7_row_2 : decode cX7_row 2 = .ok (.lconst 0, 1) := by decide +kernel
theorem dX7_row_3 : decode cX7_row 3 = .ok (.ldc2_w 83, 3) := by decide +kernel
theorem dX7_row_6 : decode cX7_row 6 = .ok (.invokestatic 62, 3) := by decide +kernel
theorem dX7_row_9 : decode cX7_row 9 = .ok (.ifCond .eq 27, 3) := by decide +kernel
theorem dX7_row_12 : decode cX7_row 12 = .ok (.iload_n 2, 1) := by decide +kernel
theorem dX7_row_13 : decode cX7_row 13 = .ok (.i2l, 1) := by decide +kernel
theorem dX7_row_14 : decode cX7_row 14 = .ok (.lconst 0, 1) := by decide +kernel
theorem dX7_row_15 : decode cX7_row 15 = .ok (.ldc2_w 85, 3) := by decide +kernel
theorem dX7_row_18 : decode cX7_row 18 = .ok (.invokestatic 62, 3) := by decide +kernel
theorem dX7_row_21 : decode cX7_row 21 = .ok (.ifCond .eq 15, 3) := by decide +kernel
theorem dX7_row_24 : decode cX7_row 24 = .ok (.iload_n 3, 1) := by decide +kernel
theorem dX7_row_25 : decode cX7_row 25 = .ok (.i2l, 1) := by decide +kernel
theorem dX7_row_26 : decode cX7_row 26 = .ok (.lconst 0, 1) := by decide +kernel
theorem dX7_row_27 : decode cX7_row 27 = .ok (.ldc2_w 87, 3) := by decide +kernel
theorem dX7_row_30 : decode cX7_row 30 = .ok (.invokestatic 62, 3) := by decide +kernel
theorem dX7_row_33 : decode cX7_row 33 = .ok (.ifCond .ne 10, 3) := by decide +kernel
theorem dX7_row_36 : decode cX7_row 36 = .ok (.aload_n 0, 1) := by decide +kernel
theorem dX7_row_37 : decode cX7_row 37 = .ok (.bipush (-2), 2) := by decide +kernel
theorem dX7_row_39 : decode cX7_row 39 = .ok (.invokevirtual 89, 3) := by decide +kernel
theorem dX7_row_42 : decode cX7_row 42 = .ok (.ireturn, 1) := by decide +kernel
theorem dX7_row_43 : decode cX7_row 43 = .ok (.aload_n 0, 1) := by decide +kernel
theorem dX7_row_44 : decode cX7_row 44 = .ok (.getfield 7, 3) := by decide +kernel
theorem dX7_row_47 : decode cX7_row 47 = .ok (.iload_n 1, 1) := by decide +kernel
theorem dX7_row_48 : decode cX7_row 48 = .ok (.iconst 1, 1) := by decide +kernel
theorem dX7_row_49 : decode cX7_row 49 = .ok (.iastore, 1) := by decide +kernel
theorem dX7_row_50 : decode cX7_row 50 = .ok (.aload_n 0, 1) := by decide +kernel
theorem dX7_row_51 : decode cX7_row 51 = .ok (.getfield 13, 3) := by decide +kernel
theorem dX7_row_54 : decode cX7_row 54 = .ok (.iload_n 1, 1) := by decide +kernel
theorem dX7_row_55 : decode cX7_row 55 = .ok (.iload_n 2, 1) := by decide +kernel
theorem dX7_row_56 : decode cX7_row 56 = .ok (.iastore, 1) := by decide +kernel
theorem dX7_row_57 : decode cX7_row 57 = .ok (.aload_n 0, 1) := by decide +kernel
theorem dX7_row_58 : decode cX7_row 58 = .ok (.getfield 16, 3) := by decide +kernel
theorem dX7_row_61 : decode cX7_row 61 = .ok (.iload_n 1, 1) := by decide +kernel
theorem dX7_row_62 : decode cX7_row 62 = .ok (.iload_n 3, 1) := by decide +kernel
theorem dX7_row_63 : decode cX7_row 63 = .ok (.iastore, 1) := by decide +kernel
theorem dX7_row_64 : decode cX7_row 64 = .ok (.iconst 0, 1) := by decide +kernel
theorem dX7_row_65 : decode cX7_row 65 = .ok (.istore 4, 2) := by decide +kernel
theorem dX7_row_67 : decode cX7_row 67 = .ok (.iload 4, 2) := by decide +kernel
theorem dX7_row_69 : decode cX7_row 69 = .ok (.bipush 40, 2) := by decide +kernel
theorem dX7_row_71 : decode cX7_row 71 = .ok (.if_icmp .ge 19, 3) := by decide +kernel
theorem dX7_row_74 : decode cX7_row 74 = .ok (.aload_n 0, 1) := by decide +kernel
theorem dX7_row_75 : decode cX7_row 75 = .ok (.getfield 21, 3) := by decide +kernel
theorem dX7_row_78 : decode cX7_row 78 = .ok (.iload_n 1, 1) := by decide +kernel
theorem dX7_row_79 : decode cX7_row 79 = .ok (.aaload, 1) := by decide +kernel
theorem dX7_row_80 : decode cX7_row 80 = .ok (.iload 4, 2) := by decide +kernel
theorem dX7_row_82 : decode cX7_row 82 = .ok (.lconst 0, 1) := by decide +kernel
theorem dX7_row_83 : decode cX7_row 83 = .ok (.lastore, 1) := by decide +kernel
theorem dX7_row_84 : decode cX7_row 84 = .ok (.iinc 4 1, 3) := by decide +kernel
theorem dX7_row_87 : decode cX7_row 87 = .ok (.goto (-20), 3) := by decide +kernel
theorem dX7_row_90 : decode cX7_row 90 = .ok (.iconst 1, 1) := by decide +kernel
theorem dX7_row_91 : decode cX7_row 91 = .ok (.ireturn, 1) := by decide +kernel
theorem dX7_statement_0 : decode cX7_statement 0 = .ok (.aload_n 0, 1) := by decide +kernel
theorem dX7_statement_1 : decode cX7_statement 1 = .ok (.ldc 200, 2) := by decide +kernel
theorem dX7_statement_3 : decode cX7_statement 3 = .ok (.invokevirtual 188, 3) := by decide +kernel
theorem dX7_statement_6 : decode cX7_statement 6 = .ok (.ifCond .eq 26, 3) := by decide +kernel
theorem dX7_statement_32 : decode cX7_statement 32 = .ok (.aload_n 0, 1) := by decide +kernel
theorem dX7_statement_33 : decode cX7_statement 33 = .ok (.ldc 205, 2) := by decide +kernel
theorem dX7_statement_35 : decode cX7_statement 35 = .ok (.invokevirtual 188, 3) := by decide +kernel
theorem dX7_statement_38 : decode cX7_statement 38 = .ok (.ifCond .eq 26, 3) := by decide +kernel
theorem dX7_statement_64 : decode cX7_statement 64 = .ok (.aload_n 0, 1) := by decide +kernel
theorem dX7_statement_65 : decode cX7_statement 65 = .ok (.ldc 209, 2) := by decide +kernel
theorem dX7_statement_67 : decode cX7_statement 67 = .ok (.invokevirtual 188, 3) := by decide +kernel
theorem dX7_statement_70 : decode cX7_statement 70 = .ok (.ifCond .eq 77, 3) := by decide +kernel
theorem dX7_statement_147 : decode cX7_statement 147 = .ok (.aload_n 0, 1) := by decide +kernel
theorem dX7_statement_148 : decode cX7_statement 148 = .ok (.ldc 214, 2) := by decide +kernel
theorem dX7_statement_150 : decode cX7_statement 150 = .ok (.invokevirtual 188, 3) := by decide +kernel
theorem dX7_statement_153 : decode cX7_statement 153 = .ok (.ifCond .eq 67, 3) := by decide +kernel
theorem dX7_statement_220 : decode cX7_statement 220 = .ok (.aload_n 0, 1) := by decide +kernel
theorem dX7_statement_221 : decode cX7_statement 221 = .ok (.ldc 215, 2) := by decide +kernel
theorem dX7_statement_223 : decode cX7_statement 223 = .ok (.invokevirtual 188, 3) := by decide +kernel
theorem dX7_statement_226 : decode cX7_statement 226 = .ok (.ifCond .eq 19, 3) := by decide +kernel
theorem dX7_statement_245 : decode cX7_statement 245 = .ok (.aload_n 0, 1) := by decide +kernel
theorem dX7_statement_246 : decode cX7_statement 246 = .ok (.ldc 217, 2) := by decide +kernel
theorem dX7_statement_248 : decode cX7_statement 248 = .ok (.aload_n 0, 1) := by decide +kernel
theorem dX7_statement_249 : decode cX7_statement 249 = .ok (.getfield 51, 3) := by decide +kernel
theorem dX7_statement_252 : decode cX7_statement 252 = .ok (.iconst 1, 1) := by decide +kernel
theorem dX7_statement_253 : decode cX7_statement 253 = .ok (.iconst 0, 1) := by decide +kernel
theorem dX7_statement_254 : decode cX7_statement 254 = .ok (.bipush 99, 2) := by decide +kernel
theorem dX7_statement_256 : decode cX7_statement 256 = .ok (.invokevirtual 196, 3) := by decide +kernel
theorem dX7_statement_259 : decode cX7_statement 259 = .ok (.ireturn, 1) := by decide +kernel
theorem dX7_status_0 : decode cX7_status 0 = .ok (.iconst 0, 1) := by decide +kernel
theorem dX7_status_1 : decode cX7_status 1 = .ok (.istore_n 2, 1) := by decide +kernel
theorem dX7_status_2 : decode cX7_status 2 = .ok (.iload_n 1, 1) := by decide +kernel
theorem dX7_status_3 : decode cX7_status 3 = .ok (.tableswitch 134 0 7 #[45, 50, 55, 60, 65, 70, 103, 103], 45) := by decide +kernel
theorem dX7_status_48 : decode cX7_status 48 = .ok (.aload_n 0, 1) := by decide +kernel
theorem dX7_status_49 : decode cX7_status 49 = .ok (.getfield 66, 3) := by decide +kernel
theorem dX7_status_52 : decode cX7_status 52 = .ok (.ireturn, 1) := by decide +kernel
theorem dX7_status_53 : decode cX7_status 53 = .ok (.aload_n 0, 1) := by decide +kernel
theorem dX7_status_54 : decode cX7_status 54 = .ok (.getfield 70, 3) := by decide +kernel
theorem dX7_status_57 : decode cX7_status 57 = .ok (.ireturn, 1) := by decide +kernel
theorem dX7_status_58 : decode cX7_status 58 = .ok (.aload_n 0, 1) := by decide +kernel
theorem dX7_status_59 : decode cX7_status 59 = .ok (.getfield 73, 3) := by decide +kernel
theorem dX7_status_62 : decode cX7_status 62 = .ok (.ireturn, 1) := by decide +kernel
theorem dX7_status_63 : decode cX7_status 63 = .ok (.aload_n 0, 1) := by decide +kernel
theorem dX7_status_64 : decode cX7_status 64 = .ok (.getfield 80, 3) := by decide +kernel
theorem dX7_status_67 : decode cX7_status 67 = .ok (.ireturn, 1) := by decide +kernel
theorem dX7_status_68 : decode cX7_status 68 = .ok (.aload_n 0, 1) := by decide +kernel
theorem dX7_status_69 : decode cX7_status 69 = .ok (.getfield 140, 3) := by decide +kernel
theorem dX7_status_72 : decode cX7_status 72 = .ok (.ireturn, 1) := by decide +kernel
theorem dX7_status_73 : decode cX7_status 73 = .ok (.iconst 0, 1) := by decide +kernel
theorem dX7_status_74 : decode cX7_status 74 = .ok (.istore_n 3, 1) := by decide +kernel
theorem dX7_status_75 : decode cX7_status 75 = .ok (.iload_n 3, 1) := by decide +kernel
theorem dX7_status_76 : decode cX7_status 76 = .ok (.bipush 8, 2) := by decide +kernel
theorem dX7_status_78 : decode cX7_status 78 = .ok (.if_icmp .ge 26, 3) := by decide +kernel
theorem dX7_status_81 : decode cX7_status 81 = .ok (.iload_n 2, 1) := by decide +kernel
theorem dX7_status_82 : decode cX7_status 82 = .ok (.aload_n 0, 1) := by decide +kernel
theorem dX7_status_83 : decode cX7_status 83 = .ok (.getfield 7, 3) := by decide +kernel
theorem dX7_status_86 : decode cX7_status 86 = .ok (.iload_n 3, 1) := by decide +kernel
theorem dX7_status_87 : decode cX7_status 87 = .ok (.iaload, 1) := by decide +kernel
theorem dX7_status_88 : decode cX7_status 88 = .ok (.ifCond .eq 7, 3) := by decide +kernel
theorem dX7_status_95 : decode cX7_status 95 = .ok (.iconst 0, 1) := by decide +kernel
theorem dX7_status_96 : decode cX7_status 96 = .ok (.iadd, 1) := by decide +kernel
theorem dX7_status_97 : decode cX7_status 97 = .ok (.istore_n 2, 1) := by decide +kernel
theorem dX7_status_98 : decode cX7_status 98 = .ok (.iinc 3 1, 3) := by decide +kernel
theorem dX7_status_101 : decode cX7_status 101 = .ok (.goto (-26), 3) := by decide +kernel
theorem dX7_status_104 : decode cX7_status 104 = .ok (.iload_n 2, 1) := by decide +kernel
theorem dX7_status_105 : decode cX7_status 105 = .ok (.ireturn, 1) := by decide +kernel
theorem dX7_status_106 : decode cX7_status 106 = .ok (.iconst 0, 1) := by decide +kernel
theorem dX7_status_107 : decode cX7_status 107 = .ok (.istore_n 3, 1) := by decide +kernel
theorem dX7_status_108 : decode cX7_status 108 = .ok (.iload_n 3, 1) := by decide +kernel
theorem dX7_status_109 : decode cX7_status 109 = .ok (.aload_n 0, 1) := by decide +kernel
theorem dX7_status_110 : decode cX7_status 110 = .ok (.getfield 70, 3) := by decide +kernel
theorem dX7_status_113 : decode cX7_status 113 = .ok (.if_icmp .ge 22, 3) := by decide +kernel
theorem dX7_status_135 : decode cX7_status 135 = .ok (.iload_n 2, 1) := by decide +kernel
theorem dX7_status_136 : decode cX7_status 136 = .ok (.ireturn, 1) := by decide +kernel
theorem dX7_status_137 : decode cX7_status 137 = .ok (.iload_n 1, 1) := by decide +kernel
theorem dX7_status_138 : decode cX7_status 138 = .ok (.i2l, 1) := by decide +kernel
theorem dX7_status_139 : decode cX7_status 139 = .ok (.ldc2_w 136, 3) := by decide +kernel
theorem dX7_status_142 : decode cX7_status 142 = .ok (.ldc2_w 344, 3) := by decide +kernel
theorem dX7_status_145 : decode cX7_status 145 = .ok (.invokestatic 62, 3) := by decide +kernel
theorem dX7_status_148 : decode cX7_status 148 = .ok (.ifCond .eq 15, 3) := by decide +kernel
theorem dX7_status_151 : decode cX7_status 151 = .ok (.aload_n 0, 1) := by decide +kernel
theorem dX7_status_152 : decode cX7_status 152 = .ok (.getfield 34, 3) := by decide +kernel
theorem dX7_status_155 : decode cX7_status 155 = .ok (.iload_n 1, 1) := by decide +kernel
theorem dX7_status_156 : decode cX7_status 156 = .ok (.bipush 10, 2) := by decide +kernel
theorem dX7_status_158 : decode cX7_status 158 = .ok (.isub, 1) := by decide +kernel
theorem dX7_status_159 : decode cX7_status 159 = .ok (.iaload, 1) := by decide +kernel
theorem dX7_status_160 : decode cX7_status 160 = .ok (.goto 4, 3) := by decide +kernel
theorem dX7_status_163 : decode cX7_status 163 = .ok (.iconst (-1), 1) := by decide +kernel
theorem dX7_status_164 : decode cX7_status 164 = .ok (.ireturn, 1) := by decide +kernel
theorem dX7_told_0 : decode cX7_told 0 = .ok (.aload_n 0, 1) := by decide +kernel
theorem dX7_told_1 : decode cX7_told 1 = .ok (.aload_n 1, 1) := by decide +kernel
theorem dX7_told_2 : decode cX7_told 2 = .ok (.invokevirtual 188, 3) := by decide +kernel
theorem dX7_told_5 : decode cX7_told 5 = .ok (.ifCond .ne 8, 3) := by decide +kernel
theorem dX7_told_8 : decode cX7_told 8 = .ok (.aload_n 0, 1) := by decide +kernel
theorem dX7_told_9 : decode cX7_told 9 = .ok (.invokevirtual 181, 3) := by decide +kernel
theorem dX7_told_12 : decode cX7_told 12 = .ok (.ireturn, 1) := by decide +kernel
theorem dX7_waggon_0 : decode cX7_waggon 0 = .ok (.iload_n 1, 1) := by decide +kernel
theorem dX7_waggon_1 : decode cX7_waggon 1 = .ok (.i2l, 1) := by decide +kernel
theorem dX7_waggon_2 : decode cX7_waggon 2 = .ok (.ldc2_w 134, 3) := by decide +kernel
theorem dX7_waggon_5 : decode cX7_waggon 5 = .ok (.ldc2_w 136, 3) := by decide +kernel
theorem dX7_waggon_8 : decode cX7_waggon 8 = .ok (.invokestatic 62, 3) := by decide +kernel
theorem dX7_waggon_11 : decode cX7_waggon 11 = .ok (.ifCond .eq 27, 3) := by decide +kernel
theorem dX7_waggon_14 : decode cX7_waggon 14 = .ok (.iload_n 2, 1) := by decide +kernel
theorem dX7_waggon_15 : decode cX7_waggon 15 = .ok (.i2l, 1) := by decide +kernel
theorem dX7_waggon_16 : decode cX7_waggon 16 = .ok (.lconst 1, 1) := by decide +kernel
theorem dX7_waggon_17 : decode cX7_waggon 17 = .ok (.ldc2_w 118, 3) := by decide +kernel
theorem dX7_waggon_20 : decode cX7_waggon 20 = .ok (.invokestatic 62, 3) := by decide +kernel
theorem dX7_waggon_23 : decode cX7_waggon 23 = .ok (.ifCond .eq 15, 3) := by decide +kernel
theorem dX7_waggon_26 : decode cX7_waggon 26 = .ok (.iload_n 3, 1) := by decide +kernel
theorem dX7_waggon_27 : decode cX7_waggon 27 = .ok (.i2l, 1) := by decide +kernel
theorem dX7_waggon_28 : decode cX7_waggon 28 = .ok (.lconst 0, 1) := by decide +kernel
theorem dX7_waggon_29 : decode cX7_waggon 29 = .ok (.ldc2_w 120, 3) := by decide +kernel
theorem dX7_waggon_32 : decode cX7_waggon 32 = .ok (.invokestatic 62, 3) := by decide +kernel
theorem dX7_waggon_35 : decode cX7_waggon 35 = .ok (.ifCond .ne 10, 3) := by decide +kernel
theorem dX7_waggon_38 : decode cX7_waggon 38 = .ok (.aload_n 0, 1) := by decide +kernel
theorem dX7_waggon_39 : decode cX7_waggon 39 = .ok (.bipush (-2), 2) := by decide +kernel
theorem dX7_waggon_41 : decode cX7_waggon 41 = .ok (.invokevirtual 89, 3) := by decide +kernel
theorem dX7_waggon_44 : decode cX7_waggon 44 = .ok (.ireturn, 1) := by decide +kernel
theorem dX7_waggon_45 : decode cX7_waggon 45 = .ok (.aload_n 0, 1) := by decide +kernel
theorem dX7_waggon_46 : decode cX7_waggon 46 = .ok (.getfield 73, 3) := by decide +kernel
theorem dX7_waggon_49 : decode cX7_waggon 49 = .ok (.iconst 5, 1) := by decide +kernel
theorem dX7_waggon_50 : decode cX7_waggon 50 = .ok (.if_icmp .ne 10, 3) := by decide +kernel
theorem dX7_waggon_60 : decode cX7_waggon 60 = .ok (.aload_n 0, 1) := by decide +kernel
theorem dX7_waggon_61 : decode cX7_waggon 61 = .ok (.getfield 45, 3) := by decide +kernel
theorem dX7_waggon_64 : decode cX7_waggon 64 = .ok (.aload_n 0, 1) := by decide +kernel
theorem dX7_waggon_65 : decode cX7_waggon 65 = .ok (.getfield 73, 3) := by decide +kernel
theorem dX7_waggon_68 : decode cX7_waggon 68 = .ok (.aaload, 1) := by decide +kernel
theorem dX7_waggon_69 : decode cX7_waggon 69 = .ok (.iconst 0, 1) := by decide +kernel
theorem dX7_waggon_70 : decode cX7_waggon 70 = .ok (.iload_n 1, 1) := by decide +kernel
theorem dX7_waggon_71 : decode cX7_waggon 71 = .ok (.iastore, 1) := by decide +kernel
theorem dX7_waggon_72 : decode cX7_waggon 72 = .ok (.aload_n 0, 1) := by decide +kernel
theorem dX7_waggon_73 : decode cX7_waggon 73 = .ok (.getfield 45, 3) := by decide +kernel
theorem dX7_waggon_76 : decode cX7_waggon 76 = .ok (.aload_n 0, 1) := by decide +kernel
theorem dX7_waggon_77 : decode cX7_waggon 77 = .ok (.getfield 73, 3) := by decide +kernel
theorem dX7_waggon_80 : decode cX7_waggon 80 = .ok (.aaload, 1) := by decide +kernel
theorem dX7_waggon_81 : decode cX7_waggon 81 = .ok (.iconst 1, 1) := by decide +kernel
theorem dX7_waggon_82 : decode cX7_waggon 82 = .ok (.iload_n 2, 1) := by decide +kernel
theorem dX7_waggon_83 : decode cX7_waggon 83 = .ok (.iastore, 1) := by decide +kernel
theorem dX7_waggon_84 : decode cX7_waggon 84 = .ok (.aload_n 0, 1) := by decide +kernel
theorem dX7_waggon_85 : decode cX7_waggon 85 = .ok (.getfield 45, 3) := by decide +kernel
theorem dX7_waggon_88 : decode cX7_waggon 88 = .ok (.aload_n 0, 1) := by decide +kernel
theorem dX7_waggon_89 : decode cX7_waggon 89 = .ok (.getfield 73, 3) := by decide +kernel
theorem dX7_waggon_92 : decode cX7_waggon 92 = .ok (.aaload, 1) := by decide +kernel
theorem dX7_waggon_93 : decode cX7_waggon 93 = .ok (.iconst 2, 1) := by decide +kernel
theorem dX7_waggon_94 : decode cX7_waggon 94 = .ok (.iload_n 3, 1) := by decide +kernel
theorem dX7_waggon_95 : decode cX7_waggon 95 = .ok (.iastore, 1) := by decide +kernel
theorem dX7_waggon_96 : decode cX7_waggon 96 = .ok (.aload_n 0, 1) := by decide +kernel
theorem dX7_waggon_97 : decode cX7_waggon 97 = .ok (.dup, 1) := by decide +kernel
theorem dX7_waggon_98 : decode cX7_waggon 98 = .ok (.getfield 73, 3) := by decide +kernel
theorem dX7_waggon_101 : decode cX7_waggon 101 = .ok (.dup_x1, 1) := by decide +kernel
theorem dX7_waggon_102 : decode cX7_waggon 102 = .ok (.iconst 1, 1) := by decide +kernel
theorem dX7_waggon_103 : decode cX7_waggon 103 = .ok (.iadd, 1) := by decide +kernel
theorem dX7_waggon_104 : decode cX7_waggon 104 = .ok (.putfield 73, 3) := by decide +kernel
theorem dX7_waggon_107 : decode cX7_waggon 107 = .ok (.ireturn, 1) := by decide +kernel
theorem dX7_wrong_0 : decode cX7_wrong 0 = .ok (.aload_n 0, 1) := by decide +kernel
theorem dX7_wrong_1 : decode cX7_wrong 1 = .ok (.aload_n 0, 1) := by decide +kernel
theorem dX7_wrong_2 : decode cX7_wrong 2 = .ok (.getfield 146, 3) := by decide +kernel
theorem dX7_wrong_5 : decode cX7_wrong 5 = .ok (.putfield 168, 3) := by decide +kernel
theorem dX7_wrong_8 : decode cX7_wrong 8 = .ok (.iconst 0, 1) := by decide +kernel
theorem dX7_wrong_9 : decode cX7_wrong 9 = .ok (.ireturn, 1) := by decide +kernel
