theorem ig_0 : ∀ w ∈ u_ws RX0 TX0 8, w ∈ oh_t := oh_ofs [115, 117, 119, 121, 123, 125, 127, 129] (by decide +kernel) (by decide +kernel)
theorem oh_df0 : ∀ j, j < 8 → defaultValue (tyX0 j) = vp_V [.null, .null, .null, .null, .null, .null, .null, .int 0] j := by
  intro j hj
  rcases (show j = 0 ∨ j = 1 ∨ j = 2 ∨ j = 3 ∨ j = 4 ∨ j = 5 ∨ j = 6 ∨ j = 7 by omega) with rfl | rfl | rfl | rfl | rfl | rfl | rfl | rfl <;> rfl
theorem ig_1 : ∀ w ∈ u_ws RX1 TX1 5, w ∈ oh_t := oh_ofs [155, 157, 159, 161, 163] (by decide +kernel) (by decide +kernel)
theorem oh_df1 : ∀ j, j < 5 → defaultValue (tyX1 j) = vp_V [.int 0, .int 0, .int 0, .int 0, .int 0] j := by
  intro j hj
  rcases (show j = 0 ∨ j = 1 ∨ j = 2 ∨ j = 3 ∨ j = 4 by omega) with rfl | rfl | rfl | rfl | rfl <;> rfl
theorem ig_2 : ∀ w ∈ u_ws RX2 TX2 4, w ∈ oh_t := oh_ofs [249, 251, 253, 255] (by decide +kernel) (by decide +kernel)
theorem oh_df2 : ∀ j, j < 4 → defaultValue (tyX2 j) = vp_V [.null, .null, .null, .null] j := by
  intro j hj
  rcases (show j = 0 ∨ j = 1 ∨ j = 2 ∨ j = 3 by omega) with rfl | rfl | rfl | rfl <;> rfl
theorem ig_3 : ∀ w ∈ u_ws RX3 TX3 3, w ∈ oh_t := oh_ofs [203, 205, 207] (by decide +kernel) (by decide +kernel)
theorem oh_df3 : ∀ j, j < 3 → defaultValue (tyX3 j) = vp_V [.null, .null, .null] j := by
  intro j hj
  rcases (show j = 0 ∨ j = 1 ∨ j = 2 by omega) with rfl | rfl | rfl <;> rfl
theorem ig_4 : ∀ w ∈ u_ws RX4 TX4 6, w ∈ oh_t := oh_ofs [225, 227, 229, 231, 233, 235] (by decide +kernel) (by decide +kernel)
theorem oh_df4 : ∀ j, j < 6 → defaultValue (tyX4 j) = vp_V [.null, .int 0, .int 0, .int 0, .int 0, .int 0] j := by
  intro j hj
  rcases (show j = 0 ∨ j = 1 ∨ j = 2 ∨ j = 3 ∨ j = 4 ∨ j = 5 by omega) with rfl | rfl | rfl | rfl | rfl | rfl <;> rfl
theorem ig_5 : ∀ w ∈ u_ws RX5 TX5 7, w ∈ oh_t := oh_ofs [177, 179, 181, 183, 185, 187, 189] (by decide +kernel) (by decide +kernel)
theorem oh_df5 : ∀ j, j < 7 → defaultValue (tyX5 j) = vp_V [.null, .null, .null, .null, .null, .null, .null] j := by
  intro j hj
  rcases (show j = 0 ∨ j = 1 ∨ j = 2 ∨ j = 3 ∨ j = 4 ∨ j = 5 ∨ j = 6 by omega) with rfl | rfl | rfl | rfl | rfl | rfl | rfl <;> rfl
theorem ig_6 : ∀ w ∈ u_ws RX6 TX6 9, w ∈ oh_t := oh_ofs [267, 269, 271, 273, 275, 277, 279, 281, 283] (by decide +kernel) (by decide +kernel)
theorem oh_df6 : ∀ j, j < 9 → defaultValue (tyX6 j) = vp_V [.null, .null, .int 0, .null, .null, .null, .null, .null, .null] j := by
  intro j hj
  rcases (show j = 0 ∨ j = 1 ∨ j = 2 ∨ j = 3 ∨ j = 4 ∨ j = 5 ∨ j = 6 ∨ j = 7 ∨ j = 8 by omega) with rfl | rfl | rfl | rfl | rfl | rfl | rfl | rfl | rfl <;> rfl
theorem ig_7 : ∀ w ∈ u_ws RX7 TX7 29, w ∈ oh_t := oh_ofs [1002, 1004, 1006, 1008, 1010, 1012, 1014, 1016, 1018, 1020, 1022, 1024, 1026, 1028, 1030, 1032, 1034, 1036, 1038, 1040, 1042, 1044, 1046, 1048, 1050, 1052, 1054, 1056, 1058] (by decide +kernel) (by decide +kernel)
theorem oh_df7 : ∀ j, j < 29 → defaultValue (tyX7 j) = vp_V [.null, .null, .null, .null, .null, .null, .null, .int 0, .null, .int 0, .null, .int 0, .null, .int 0, .null, .int 0, .null, .null, .null, .int 0, .null, .int 0, .int 0, .int 0, .long 0, .int 0, .int 0, .null, .int 0] j := by
  intro j hj
  rcases (show j = 0 ∨ j = 1 ∨ j = 2 ∨ j = 3 ∨ j = 4 ∨ j = 5 ∨ j = 6 ∨ j = 7 ∨ j = 8 ∨ j = 9 ∨ j = 10 ∨ j = 11 ∨ j = 12 ∨ j = 13 ∨ j = 14 ∨ j = 15 ∨ j = 16 ∨ j = 17 ∨ j = 18 ∨ j = 19 ∨ j = 20 ∨ j = 21 ∨ j = 22 ∨ j = 23 ∨ j = 24 ∨ j = 25 ∨ j = 26 ∨ j = 27 ∨ j = 28 by omega) with rfl | rfl | rfl | rfl | rfl | rfl | rfl | rfl | rfl | rfl | rfl | rfl | rfl | rfl | rfl | rfl | rfl | rfl | rfl | rfl | rfl | rfl | rfl | rfl | rfl | rfl | rfl | rfl | rfl <;> rfl
theorem oh_new_i (n : Nat) (c : ClassId) : vp_cell c (n, .inl (fun _ => 0)) = arrV c n (fun _ => defaultValue .int) := rfl
theorem oh_new_l (n : Nat) (c : ClassId) : vp_cell c (n, .inr (.inl (fun _ => 0))) = arrV c n (fun _ => defaultValue .long) := rfl
theorem q_66 : Cond.initialized RX6 ∈ oh_t := oh_of (i := 66) (by decide +kernel) rfl
theorem q_67 : Cond.initialized RX0 ∈ oh_t := oh_of (i := 67) (by decide +kernel) rfl
theorem q_97 : Cond.fieldLink RX0 13 "OneHeavyLoad$Land" "counts" "[I" ∈ oh_t := oh_of (i := 97) (by decide +kernel) rfl
theorem q_101 : Cond.fieldLink RX0 18 "OneHeavyLoad$Land" "roads" "[I" ∈ oh_t := oh_of (i := 101) (by decide +kernel) rfl
theorem q_103 : Cond.fieldLink RX0 21 "OneHeavyLoad$Land" "bridges" "[I" ∈ oh_t := oh_of (i := 103) (by decide +kernel) rfl
theorem q_104 : Cond.fieldLink RX0 24 "OneHeavyLoad$Land" "waggons" "[I" ∈ oh_t := oh_of (i := 104) (by decide +kernel) rfl
theorem q_293 : Cond.methodLink RX6 66 yX6_within ∈ oh_t := oh_of (i := 293) (by decide +kernel) rfl
theorem q_294 : Cond.static yX6_within ∈ oh_t := oh_of (i := 294) (by decide +kernel) rfl
theorem q_295 : Cond.code yX6_within cX6_within 3 (some .boolean) ∈ oh_t := oh_of (i := 295) (by decide +kernel) rfl
theorem q_384 : Cond.methodLink RX0 50 yX0_ofBridge ∈ oh_t := oh_of (i := 384) (by decide +kernel) rfl
theorem q_385 : Cond.instanceMethod yX0_ofBridge ∈ oh_t := oh_of (i := 385) (by decide +kernel) rfl
theorem q_386 : Cond.selects RX0 yX0_ofBridge yX0_ofBridge ∈ oh_t := oh_of (i := 386) (by decide +kernel) rfl
theorem q_387 : Cond.code yX0_ofBridge cX0_ofBridge 3 (some .int) ∈ oh_t := oh_of (i := 387) (by decide +kernel) rfl
theorem q_687 : Cond.methodLink RX0 54 yX0_ofWaggon ∈ oh_t := oh_of (i := 687) (by decide +kernel) rfl
theorem q_688 : Cond.instanceMethod yX0_ofWaggon ∈ oh_t := oh_of (i := 688) (by decide +kernel) rfl
theorem q_689 : Cond.selects RX0 yX0_ofWaggon yX0_ofWaggon ∈ oh_t := oh_of (i := 689) (by decide +kernel) rfl
theorem q_690 : Cond.code yX0_ofWaggon cX0_ofWaggon 3 (some .int) ∈ oh_t := oh_of (i := 690) (by decide +kernel) rfl
theorem pdVX0_ofBridge : yX0_ofBridge.cls = RX0 ∧ yX0_ofBridge.cls ≠ "java/lang/invoke/MethodHandle" ∧ yX0_ofBridge.cls ≠ "java/lang/invoke/VarHandle" ∧ (parseMethodDescriptor yX0_ofBridge.desc).map (fun d => d.parameters.length) = some 2 := by decide +kernel
theorem pdVX0_ofWaggon : yX0_ofWaggon.cls = RX0 ∧ yX0_ofWaggon.cls ≠ "java/lang/invoke/MethodHandle" ∧ yX0_ofWaggon.cls ≠ "java/lang/invoke/VarHandle" ∧ (parseMethodDescriptor yX0_ofWaggon.desc).map (fun d => d.parameters.length) = some 2 := by decide +kernel
theorem pdX6_within : yX6_within.cls ≠ "java/lang/invoke/MethodHandle" ∧ yX6_within.cls ≠ "java/lang/invoke/VarHandle" ∧ (parseMethodDescriptor yX6_within.desc).map (fun d => d.parameters.length) = some 3 := by decide +kernel
theorem dX0_isPropped_0 : decode cX0_isPropped 0 = .ok (.aload_n 0, 1) := by decide +kernel
theorem dX0_isPropped_1 : decode cX0_isPropped 1 = .ok (.iload_n 1, 1) := by decide +kernel
theorem dX0_isPropped_2 : decode cX0_isPropped 2 = .ok (.bipush 7, 2) := by decide +kernel
theorem dX0_isPropped_4 : decode cX0_isPropped 4 = .ok (.invokevirtual 50, 3) := by decide +kernel
theorem dX0_isPropped_7 : decode cX0_isPropped 7 = .ok (.iconst 1, 1) := by decide +kernel
theorem dX0_isPropped_8 : decode cX0_isPropped 8 = .ok (.if_icmp .ne 7, 3) := by decide +kernel
theorem dX0_isPropped_11 : decode cX0_isPropped 11 = .ok (.iconst 1, 1) := by decide +kernel
theorem dX0_isPropped_12 : decode cX0_isPropped 12 = .ok (.goto 4, 3) := by decide +kernel
theorem dX0_isPropped_15 : decode cX0_isPropped 15 = .ok (.iconst 0, 1) := by decide +kernel
theorem dX0_isPropped_16 : decode cX0_isPropped 16 = .ok (.ireturn, 1) := by decide +kernel
theorem dX0_ofBridge_0 : decode cX0_ofBridge 0 = .ok (.aload_n 0, 1) := by decide +kernel
theorem dX0_ofBridge_1 : decode cX0_ofBridge 1 = .ok (.getfield 21, 3) := by decide +kernel
theorem dX0_ofBridge_4 : decode cX0_ofBridge 4 = .ok (.iload_n 1, 1) := by decide +kernel
theorem dX0_ofBridge_5 : decode cX0_ofBridge 5 = .ok (.bipush 10, 2) := by decide +kernel
theorem dX0_ofBridge_7 : decode cX0_ofBridge 7 = .ok (.imul, 1) := by decide +kernel
theorem dX0_ofBridge_8 : decode cX0_ofBridge 8 = .ok (.iload_n 2, 1) := by decide +kernel
theorem dX0_ofBridge_9 : decode cX0_ofBridge 9 = .ok (.iadd, 1) := by decide +kernel
theorem dX0_ofBridge_10 : decode cX0_ofBridge 10 = .ok (.iaload, 1) := by decide +kernel
theorem dX0_ofBridge_11 : decode cX0_ofBridge 11 = .ok (.ireturn, 1) := by decide +kernel
theorem dX0_ofRoad_0 : decode cX0_ofRoad 0 = .ok (.aload_n 0, 1) := by decide +kernel
theorem dX0_ofRoad_1 : decode cX0_ofRoad 1 = .ok (.getfield 18, 3) := by decide +kernel
theorem dX0_ofRoad_4 : decode cX0_ofRoad 4 = .ok (.iload_n 1, 1) := by decide +kernel
theorem dX0_ofRoad_5 : decode cX0_ofRoad 5 = .ok (.bipush 7, 2) := by decide +kernel
theorem dX0_ofRoad_7 : decode cX0_ofRoad 7 = .ok (.imul, 1) := by decide +kernel
theorem dX0_ofRoad_8 : decode cX0_ofRoad 8 = .ok (.iload_n 2, 1) := by decide +kernel
theorem dX0_ofRoad_9 : decode cX0_ofRoad 9 = .ok (.iadd, 1) := by decide +kernel
theorem dX0_ofRoad_10 : decode cX0_ofRoad 10 = .ok (.iaload, 1) := by decide +kernel
theorem dX0_ofRoad_11 : decode cX0_ofRoad 11 = .ok (.ireturn, 1) := by decide +kernel
theorem dX0_ofWaggon_0 : decode cX0_ofWaggon 0 = .ok (.aload_n 0, 1) := by decide +kernel
theorem dX0_ofWaggon_1 : decode cX0_ofWaggon 1 = .ok (.getfield 24, 3) := by decide +kernel
theorem dX0_ofWaggon_4 : decode cX0_ofWaggon 4 = .ok (.iload_n 1, 1) := by decide +kernel
theorem dX0_ofWaggon_5 : decode cX0_ofWaggon 5 = .ok (.iconst 3, 1) := by decide +kernel
theorem dX0_ofWaggon_6 : decode cX0_ofWaggon 6 = .ok (.imul, 1) := by decide +kernel
theorem dX0_ofWaggon_7 : decode cX0_ofWaggon 7 = .ok (.iload_n 2, 1) := by decide +kernel
theorem dX0_ofWaggon_8 : decode cX0_ofWaggon 8 = .ok (.iadd, 1) := by decide +kernel
theorem dX0_ofWaggon_9 : decode cX0_ofWaggon 9 = .ok (.iaload, 1) := by decide +kernel
theorem dX0_ofWaggon_10 : decode cX0_ofWaggon 10 = .ok (.ireturn, 1) := by decide +kernel
theorem dX0_setsOfParts_0 : decode cX0_setsOfParts 0 = .ok (.iconst 1, 1) := by decide +kernel
theorem dX0_setsOfParts_1 : decode cX0_setsOfParts 1 = .ok (.aload_n 0, 1) := by decide +kernel
theorem dX0_setsOfParts_2 : decode cX0_setsOfParts 2 = .ok (.getfield 13, 3) := by decide +kernel
theorem dX0_setsOfParts_5 : decode cX0_setsOfParts 5 = .ok (.iconst 3, 1) := by decide +kernel
theorem dX0_setsOfParts_6 : decode cX0_setsOfParts 6 = .ok (.iaload, 1) := by decide +kernel
theorem dX0_setsOfParts_7 : decode cX0_setsOfParts 7 = .ok (.ishl, 1) := by decide +kernel
theorem dX0_setsOfParts_8 : decode cX0_setsOfParts 8 = .ok (.ireturn, 1) := by decide +kernel
theorem dX0_waggonLength_0 : decode cX0_waggonLength 0 = .ok (.aload_n 0, 1) := by decide +kernel
theorem dX0_waggonLength_1 : decode cX0_waggonLength 1 = .ok (.iload_n 1, 1) := by decide +kernel
theorem dX0_waggonLength_2 : decode cX0_waggonLength 2 = .ok (.iconst 1, 1) := by decide +kernel
theorem dX0_waggonLength_3 : decode cX0_waggonLength 3 = .ok (.invokevirtual 54, 3) := by decide +kernel
theorem dX0_waggonLength_6 : decode cX0_waggonLength 6 = .ok (.aload_n 0, 1) := by decide +kernel
theorem dX0_waggonLength_7 : decode cX0_waggonLength 7 = .ok (.iload_n 1, 1) := by decide +kernel
theorem dX0_waggonLength_8 : decode cX0_waggonLength 8 = .ok (.iconst 0, 1) := by decide +kernel
theorem dX0_waggonLength_9 : decode cX0_waggonLength 9 = .ok (.invokevirtual 54, 3) := by decide +kernel
theorem dX0_waggonLength_12 : decode cX0_waggonLength 12 = .ok (.iconst 1, 1) := by decide +kernel
theorem dX0_waggonLength_13 : decode cX0_waggonLength 13 = .ok (.isub, 1) := by decide +kernel
theorem dX0_waggonLength_14 : decode cX0_waggonLength 14 = .ok (.imul, 1) := by decide +kernel
theorem dX0_waggonLength_15 : decode cX0_waggonLength 15 = .ok (.iconst 4, 1) := by decide +kernel
theorem dX0_waggonLength_16 : decode cX0_waggonLength 16 = .ok (.iadd, 1) := by decide +kernel
theorem dX0_waggonLength_17 : decode cX0_waggonLength 17 = .ok (.ireturn, 1) := by decide +kernel
theorem dX6_isPlace_0 : decode cX6_isPlace 0 = .ok (.iload_n 0, 1) := by decide +kernel
theorem dX6_isPlace_1 : decode cX6_isPlace 1 = .ok (.iconst 0, 1) := by decide +kernel
theorem dX6_isPlace_2 : decode cX6_isPlace 2 = .ok (.bipush 15, 2) := by decide +kernel
theorem dX6_isPlace_4 : decode cX6_isPlace 4 = .ok (.invokestatic 66, 3) := by decide +kernel
theorem dX6_isPlace_7 : decode cX6_isPlace 7 = .ok (.ireturn, 1) := by decide +kernel
theorem dX6_isShelf_0 : decode cX6_isShelf 0 = .ok (.iload_n 0, 1) := by decide +kernel
theorem dX6_isShelf_1 : decode cX6_isShelf 1 = .ok (.iconst 0, 1) := by decide +kernel
theorem dX6_isShelf_2 : decode cX6_isShelf 2 = .ok (.bipush 7, 2) := by decide +kernel
theorem dX6_isShelf_4 : decode cX6_isShelf 4 = .ok (.invokestatic 66, 3) := by decide +kernel
theorem dX6_isShelf_7 : decode cX6_isShelf 7 = .ok (.ireturn, 1) := by decide +kernel
theorem dX6_within_0 : decode cX6_within 0 = .ok (.iload_n 0, 1) := by decide +kernel
theorem dX6_within_1 : decode cX6_within 1 = .ok (.iload_n 1, 1) := by decide +kernel
theorem dX6_within_2 : decode cX6_within 2 = .ok (.if_icmp .lt 12, 3) := by decide +kernel
theorem dX6_within_5 : decode cX6_within 5 = .ok (.iload_n 0, 1) := by decide +kernel
theorem dX6_within_6 : decode cX6_within 6 = .ok (.iload_n 2, 1) := by decide +kernel
theorem dX6_within_7 : decode cX6_within 7 = .ok (.if_icmp .gt 7, 3) := by decide +kernel
theorem dX6_within_10 : decode cX6_within 10 = .ok (.iconst 1, 1) := by decide +kernel
theorem dX6_within_11 : decode cX6_within 11 = .ok (.goto 4, 3) := by decide +kernel
theorem dX6_within_14 : decode cX6_within 14 = .ok (.iconst 0, 1) := by decide +kernel
theorem dX6_within_15 : decode cX6_within 15 = .ok (.ireturn, 1) := by decide +kernel
