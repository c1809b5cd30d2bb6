theorem ig_0 : ∀ w ∈ u_ws RX0 TX0 8, w ∈ oh_t := oh_ofs [115, 117, 119, 121, 123, 125, 127, 129] (by decide +kernel) (by decide +kernel)
theorem oh_df0 : ∀ j, j < 8 → defaultValue (tyX0 j) = vp_V [.null, .null, .null, .null, .null, .null, .null, .int 0] j := by
  intro j hj
  rcases (show j = 0 ∨ j = 1 ∨ j = 2 ∨ j = 3 ∨ j = 4 ∨ j = 5 ∨ j = 6 ∨ j = 7 by omega) with rfl | rfl | rfl | rfl | rfl | rfl | rfl | rfl <;> rfl
theorem ig_1 : ∀ w ∈ u_ws RX1 TX1 5, w ∈ oh_t := oh_ofs [155, 157, 159, 161, 163] (by decide +kernel) (by decide +kernel)
theorem oh_df1 : ∀ j, j < 5 → defaultValue (tyX1 j) = vp_V [.int 0, .int 0, .int 0, .int 0, .int 0] j := by
  intro j hj
  rcases (show j = 0 ∨ j = 1 ∨ j = 2 ∨ j = 3 ∨ j = 4 by omega) with rfl | rfl | rfl | rfl | rfl <;> rfl
theorem ig_2 : ∀ w ∈ u_ws RX2 TX2 4, w ∈ oh_t := oh_ofs [249, 251, 253, 255] (by decide +kernel) (by decide +kernel)
theorem oh_df2 : ∀ j, j < 4 → defaultValue (tyX2 j) = vp_V [.null, .null, .null, .null] j := by
  intro j hj
  rcases (show j = 0 ∨ j = 1 ∨ j = 2 ∨ j = 3 by omega) with rfl | rfl | rfl | rfl <;> rfl
theorem ig_3 : ∀ w ∈ u_ws RX3 TX3 3, w ∈ oh_t := oh_ofs [203, 205, 207] (by decide +kernel) (by decide +kernel)
theorem oh_df3 : ∀ j, j < 3 → defaultValue (tyX3 j) = vp_V [.null, .null, .null] j := by
  intro j hj
  rcases (show j = 0 ∨ j = 1 ∨ j = 2 by omega) with rfl | rfl | rfl <;> rfl
theorem ig_4 : ∀ w ∈ u_ws RX4 TX4 6, w ∈ oh_t := oh_ofs [225, 227, 229, 231, 233, 235] (by decide +kernel) (by decide +kernel)
theorem oh_df4 : ∀ j, j < 6 → defaultValue (tyX4 j) = vp_V [.null, .int 0, .int 0, .int 0, .int 0, .int 0] j := by
  intro j hj
  rcases (show j = 0 ∨ j = 1 ∨ j = 2 ∨ j = 3 ∨ j = 4 ∨ j = 5 by omega) with rfl | rfl | rfl | rfl | rfl | rfl <;> rfl
theorem ig_5 : ∀ w ∈ u_ws RX5 TX5 7, w ∈ oh_t := oh_ofs [177, 179, 181, 183, 185, 187, 189] (by decide +kernel) (by decide +kernel)
theorem oh_df5 : ∀ j, j < 7 → defaultValue (tyX5 j) = vp_V [.null, .null, .null, .null, .null, .null, .null] j := by
  intro j hj
  rcases (show j = 0 ∨ j = 1 ∨ j = 2 ∨ j = 3 ∨ j = 4 ∨ j = 5 ∨ j = 6 by omega) with rfl | rfl | rfl | rfl | rfl | rfl | rfl <;> rfl
theorem ig_6 : ∀ w ∈ u_ws RX6 TX6 9, w ∈ oh_t := oh_ofs [267, 269, 271, 273, 275, 277, 279, 281, 283] (by decide +kernel) (by decide +kernel)
theorem oh_df6 : ∀ j, j < 9 → defaultValue (tyX6 j) = vp_V [.null, .null, .int 0, .null, .null, .null, .null, .null, .null] j := by
  intro j hj
  rcases (show j = 0 ∨ j = 1 ∨ j = 2 ∨ j = 3 ∨ j = 4 ∨ j = 5 ∨ j = 6 ∨ j = 7 ∨ j = 8 by omega) with rfl | rfl | rfl | rfl | rfl | rfl | rfl | rfl | rfl <;> rfl
theorem ig_7 : ∀ w ∈ u_ws RX7 TX7 29, w ∈ oh_t := oh_ofs [1002, 1004, 1006, 1008, 1010, 1012, 1014, 1016, 1018, 1020, 1022, 1024, 1026, 1028, 1030, 1032, 1034, 1036, 1038, 1040, 1042, 1044, 1046, 1048, 1050, 1052, 1054, 1056, 1058] (by decide +kernel) (by decide +kernel)
theorem oh_df7 : ∀ j, j < 29 → defaultValue (tyX7 j) = vp_V [.null, .null, .null, .null, .null, .null, .null, .int 0, .null, .int 0, .null, .int 0, .null, .int 0, .null, .int 0, .null, .null, .null, .int 0, .null, .int 0, .int 0, .int 0, .long 0, .int 0, .int 0, .null, .int 0] j := by
  intro j hj
  rcases (show j = 0 ∨ j = 1 ∨ j = 2 ∨ j = 3 ∨ j = 4 ∨ j = 5 ∨ j = 6 ∨ j = 7 ∨ j = 8 ∨ j = 9 ∨ j = 10 ∨ j = 11 ∨ j = 12 ∨ j = 13 ∨ j = 14 ∨ j = 15 ∨ j = 16 ∨ j = 17 ∨ j = 18 ∨ j = 19 ∨ j = 20 ∨ j = 21 ∨ j = 22 ∨ j = 23 ∨ j = 24 ∨ j = 25 ∨ j = 26 ∨ j = 27 ∨ j = 28 by omega) with rfl | rfl | rfl | rfl | rfl | rfl | rfl | rfl | rfl | rfl | rfl | rfl | rfl | rfl | rfl | rfl | rfl | rfl | rfl | rfl | rfl | rfl | rfl | rfl | rfl | rfl | rfl | rfl | rfl <;> rfl
theorem oh_new_i (n : Nat) (c : ClassId) : vp_cell c (n, .inl (fun _ => 0)) = arrV c n (fun _ => defaultValue .int) := rfl
theorem oh_new_l (n : Nat) (c : ClassId) : vp_cell c (n, .inr (.inl (fun _ => 0))) = arrV c n (fun _ => defaultValue .long) := rfl
theorem q_0 : Cond.selects RX6 yX6_refuse yX6_refuse ∈ oh_t := oh_of (i := 0) (by decide +kernel) rfl
theorem q_5 : Cond.selects RX6 yX6_isRoad yX6_isRoad ∈ oh_t := oh_of (i := 5) (by decide +kernel) rfl
theorem q_15 : Cond.selects RX6 yX6_isWaggon yX6_isWaggon ∈ oh_t := oh_of (i := 15) (by decide +kernel) rfl
theorem q_16 : Cond.selects RX6 yX6_isPack yX6_isPack ∈ oh_t := oh_of (i := 16) (by decide +kernel) rfl
theorem q_66 : Cond.initialized RX6 ∈ oh_t := oh_of (i := 66) (by decide +kernel) rfl
theorem q_97 : Cond.fieldLink RX0 13 "OneHeavyLoad$Land" "counts" "[I" ∈ oh_t := oh_of (i := 97) (by decide +kernel) rfl
theorem q_100 : Cond.fieldLink RX6 273 "OneHeavyLoad$Land" "counts" "[I" ∈ oh_t := oh_of (i := 100) (by decide +kernel) rfl
theorem q_258 : Cond.fieldLink RX6 10 "OneHeavyLoad" "now" "LOneHeavyLoad$Land;" ∈ oh_t := oh_of (i := 258) (by decide +kernel) rfl
theorem q_265 : Cond.fieldLink RX6 55 "OneHeavyLoad" "refusals" "[I" ∈ oh_t := oh_of (i := 265) (by decide +kernel) rfl
theorem q_293 : Cond.methodLink RX6 66 yX6_within ∈ oh_t := oh_of (i := 293) (by decide +kernel) rfl
theorem q_294 : Cond.static yX6_within ∈ oh_t := oh_of (i := 294) (by decide +kernel) rfl
theorem q_295 : Cond.code yX6_within cX6_within 3 (some .boolean) ∈ oh_t := oh_of (i := 295) (by decide +kernel) rfl
theorem q_296 : Cond.methodLink RX6 70 yX6_refuse ∈ oh_t := oh_of (i := 296) (by decide +kernel) rfl
theorem q_298 : Cond.instanceMethod yX6_refuse ∈ oh_t := oh_of (i := 298) (by decide +kernel) rfl
theorem q_299 : Cond.code yX6_refuse cX6_refuse 3 (some .int) ∈ oh_t := oh_of (i := 299) (by decide +kernel) rfl
theorem q_428 : Cond.methodLink RX6 136 yX6_isRoad ∈ oh_t := oh_of (i := 428) (by decide +kernel) rfl
theorem q_430 : Cond.instanceMethod yX6_isRoad ∈ oh_t := oh_of (i := 430) (by decide +kernel) rfl
theorem q_431 : Cond.code yX6_isRoad cX6_isRoad 2 (some .boolean) ∈ oh_t := oh_of (i := 431) (by decide +kernel) rfl
theorem q_679 : Cond.methodLink RX6 194 yX6_isWaggon ∈ oh_t := oh_of (i := 679) (by decide +kernel) rfl
theorem q_681 : Cond.instanceMethod yX6_isWaggon ∈ oh_t := oh_of (i := 681) (by decide +kernel) rfl
theorem q_682 : Cond.code yX6_isWaggon cX6_isWaggon 2 (some .boolean) ∈ oh_t := oh_of (i := 682) (by decide +kernel) rfl
theorem q_695 : Cond.methodLink RX6 200 yX6_isPack ∈ oh_t := oh_of (i := 695) (by decide +kernel) rfl
theorem q_697 : Cond.instanceMethod yX6_isPack ∈ oh_t := oh_of (i := 697) (by decide +kernel) rfl
theorem q_698 : Cond.code yX6_isPack cX6_isPack 3 (some .boolean) ∈ oh_t := oh_of (i := 698) (by decide +kernel) rfl
theorem pdVX6_isPack : yX6_isPack.cls = RX6 ∧ yX6_isPack.cls ≠ "java/lang/invoke/MethodHandle" ∧ yX6_isPack.cls ≠ "java/lang/invoke/VarHandle" ∧ (parseMethodDescriptor yX6_isPack.desc).map (fun d => d.parameters.length) = some 2 := by decide +kernel
theorem pdVX6_isRoad : yX6_isRoad.cls = RX6 ∧ yX6_isRoad.cls ≠ "java/lang/invoke/MethodHandle" ∧ yX6_isRoad.cls ≠ "java/lang/invoke/VarHandle" ∧ (parseMethodDescriptor yX6_isRoad.desc).map (fun d => d.parameters.length) = some 1 := by decide +kernel
theorem pdVX6_isWaggon : yX6_isWaggon.cls = RX6 ∧ yX6_isWaggon.cls ≠ "java/lang/invoke/MethodHandle" ∧ yX6_isWaggon.cls ≠ "java/lang/invoke/VarHandle" ∧ (parseMethodDescriptor yX6_isWaggon.desc).map (fun d => d.parameters.length) = some 1 := by decide +kernel
theorem pdVX6_refuse : yX6_refuse.cls = RX6 ∧ yX6_refuse.cls ≠ "java/lang/invoke/MethodHandle" ∧ yX6_refuse.cls ≠ "java/lang/invoke/VarHandle" ∧ (parseMethodDescriptor yX6_refuse.desc).map (fun d => d.parameters.length) = some 1 := by decide +kernel
theorem pdX6_within : yX6_within.cls ≠ "java/lang/invoke/MethodHandle" ∧ yX6_within.cls ≠ "java/lang/invoke/VarHandle" ∧ (parseMethodDescriptor yX6_within.desc).map (fun d => d.parameters.length) = some 3 := by decide +kernel
