theorem ig_0 : ∀ w ∈ u_ws RX0 TX0 8, w ∈ oh_t := oh_ofs [115, 117, 119, 121, 123, 125, 127, 129] (by decide +kernel) (by decide +kernel)
theorem oh_df0 : ∀ j, j < 8 → defaultValue (tyX0 j) = vp_V [.null, .null, .null, .null, .null, .null, .null, .int 0] j := by
  intro j hj
  rcases (show j = 0 ∨ j = 1 ∨ j = 2 ∨ j = 3 ∨ j = 4 ∨ j = 5 ∨ j = 6 ∨ j = 7 by omega) with rfl | rfl | rfl | rfl | rfl | rfl | rfl | rfl <;> rfl
theorem ig_1 : ∀ w ∈ u_ws RX1 TX1 5, w ∈ oh_t := oh_ofs [155, 157, 159, 161, 163] (by decide +kernel) (by decide +kernel)
theorem oh_df1 : ∀ j, j < 5 → defaultValue (tyX1 j) = vp_V [.int 0, .int 0, .int 0, .int 0, .int 0] j := by
  intro j hj
  rcases (show j = 0 ∨ j = 1 ∨ j = 2 ∨ j = 3 ∨ j = 4 by omega) with rfl | rfl | rfl | rfl | rfl <;> rfl
theorem ig_2 : ∀ w ∈ u_ws RX2 TX2 4, w ∈ oh_t := oh_ofs [249, 251, 253, 255] (by decide +kernel) (by decide +kernel)
theorem oh_df2 : ∀ j, j < 4 → defaultValue (tyX2 j) = vp_V [.null, .null, .null, .null] j := by
  intro j hj
  rcases (show j = 0 ∨ j = 1 ∨ j = 2 ∨ j = 3 by omega) with rfl | rfl | rfl | rfl <;> rfl
theorem ig_3 : ∀ w ∈ u_ws RX3 TX3 3, w ∈ oh_t := oh_ofs [203, 205, 207] (by decide +kernel) (by decide +kernel)
theorem oh_df3 : ∀ j, j < 3 → defaultValue (tyX3 j) = vp_V [.null, .null, .null] j := by
  intro j hj
  rcases (show j = 0 ∨ j = 1 ∨ j = 2 by omega) with rfl | rfl | rfl <;> rfl
theorem ig_4 : ∀ w ∈ u_ws RX4 TX4 6, w ∈ oh_t := oh_ofs [225, 227, 229, 231, 233, 235] (by decide +kernel) (by decide +kernel)
theorem oh_df4 : ∀ j, j < 6 → defaultValue (tyX4 j) = vp_V [.null, .int 0, .int 0, .int 0, .int 0, .int 0] j := by
  intro j hj
  rcases (show j = 0 ∨ j = 1 ∨ j = 2 ∨ j = 3 ∨ j = 4 ∨ j = 5 by omega) with rfl | rfl | rfl | rfl | rfl | rfl <;> rfl
theorem ig_5 : ∀ w ∈ u_ws RX5 TX5 7, w ∈ oh_t := oh_ofs [177, 179, 181, 183, 185, 187, 189] (by decide +kernel) (by decide +kernel)
theorem oh_df5 : ∀ j, j < 7 → defaultValue (tyX5 j) = vp_V [.null, .null, .null, .null, .null, .null, .null] j := by
  intro j hj
  rcases (show j = 0 ∨ j = 1 ∨ j = 2 ∨ j = 3 ∨ j = 4 ∨ j = 5 ∨ j = 6 by omega) with rfl | rfl | rfl | rfl | rfl | rfl | rfl <;> rfl
theorem ig_6 : ∀ w ∈ u_ws RX6 TX6 9, w ∈ oh_t := oh_ofs [267, 269, 271, 273, 275, 277, 279, 281, 283] (by decide +kernel) (by decide +kernel)
theorem oh_df6 : ∀ j, j < 9 → defaultValue (tyX6 j) = vp_V [.null, .null, .int 0, .null, .null, .null, .null, .null, .null] j := by
  intro j hj
  rcases (show j = 0 ∨ j = 1 ∨ j = 2 ∨ j = 3 ∨ j = 4 ∨ j = 5 ∨ j = 6 ∨ j = 7 ∨ j = 8 by omega) with rfl | rfl | rfl | rfl | rfl | rfl | rfl | rfl | rfl <;> rfl
theorem ig_7 : ∀ w ∈ u_ws RX7 TX7 29, w ∈ oh_t := oh_ofs [1002, 1004, 1006, 1008, 1010, 1012, 1014, 1016, 1018, 1020, 1022, 1024, 1026, 1028, 1030, 1032, 1034, 1036, 1038, 1040, 1042, 1044, 1046, 1048, 1050, 1052, 1054, 1056, 1058] (by decide +kernel) (by decide +kernel)
theorem oh_df7 : ∀ j, j < 29 → defaultValue (tyX7 j) = vp_V [.null, .null, .null, .null, .null, .null, .null, .int 0, .null, .int 0, .null, .int 0, .null, .int 0, .null, .int 0, .null, .null, .null, .int 0, .null, .int 0, .int 0, .int 0, .long 0, .int 0, .int 0, .null, .int 0] j := by
  intro j hj
  rcases (show j = 0 ∨ j = 1 ∨ j = 2 ∨ j = 3 ∨ j = 4 ∨ j = 5 ∨ j = 6 ∨ j = 7 ∨ j = 8 ∨ j = 9 ∨ j = 10 ∨ j = 11 ∨ j = 12 ∨ j = 13 ∨ j = 14 ∨ j = 15 ∨ j = 16 ∨ j = 17 ∨ j = 18 ∨ j = 19 ∨ j = 20 ∨ j = 21 ∨ j = 22 ∨ j = 23 ∨ j = 24 ∨ j = 25 ∨ j = 26 ∨ j = 27 ∨ j = 28 by omega) with rfl | rfl | rfl | rfl | rfl | rfl | rfl | rfl | rfl | rfl | rfl | rfl | rfl | rfl | rfl | rfl | rfl | rfl | rfl | rfl | rfl | rfl | rfl | rfl | rfl | rfl | rfl | rfl | rfl <;> rfl
theorem oh_new_i (n : Nat) (c : ClassId) : vp_cell c (n, .inl (fun _ => 0)) = arrV c n (fun _ => defaultValue .int) := rfl
theorem oh_new_l (n : Nat) (c : ClassId) : vp_cell c (n, .inr (.inl (fun _ => 0))) = arrV c n (fun _ => defaultValue .long) := rfl
theorem q_4 : Cond.selects RX0 yX0_believed yX0_believed ∈ oh_t := oh_of (i := 4) (by decide +kernel) rfl
theorem q_66 : Cond.initialized RX6 ∈ oh_t := oh_of (i := 66) (by decide +kernel) rfl
theorem q_67 : Cond.initialized RX0 ∈ oh_t := oh_of (i := 67) (by decide +kernel) rfl
theorem q_97 : Cond.fieldLink RX0 13 "OneHeavyLoad$Land" "counts" "[I" ∈ oh_t := oh_of (i := 97) (by decide +kernel) rfl
theorem q_101 : Cond.fieldLink RX0 18 "OneHeavyLoad$Land" "roads" "[I" ∈ oh_t := oh_of (i := 101) (by decide +kernel) rfl
theorem q_103 : Cond.fieldLink RX0 21 "OneHeavyLoad$Land" "bridges" "[I" ∈ oh_t := oh_of (i := 103) (by decide +kernel) rfl
theorem q_104 : Cond.fieldLink RX0 24 "OneHeavyLoad$Land" "waggons" "[I" ∈ oh_t := oh_of (i := 104) (by decide +kernel) rfl
theorem q_105 : Cond.fieldLink RX0 27 "OneHeavyLoad$Land" "parts" "[I" ∈ oh_t := oh_of (i := 105) (by decide +kernel) rfl
theorem q_106 : Cond.fieldLink RX0 30 "OneHeavyLoad$Land" "settings" "[I" ∈ oh_t := oh_of (i := 106) (by decide +kernel) rfl
theorem q_111 : Cond.fieldLink RX0 33 "OneHeavyLoad$Land" "trip" "[I" ∈ oh_t := oh_of (i := 111) (by decide +kernel) rfl
theorem q_113 : Cond.fieldLink RX0 36 "OneHeavyLoad$Land" "onWay" "Z" ∈ oh_t := oh_of (i := 113) (by decide +kernel) rfl
theorem q_293 : Cond.methodLink RX6 66 yX6_within ∈ oh_t := oh_of (i := 293) (by decide +kernel) rfl
theorem q_294 : Cond.static yX6_within ∈ oh_t := oh_of (i := 294) (by decide +kernel) rfl
theorem q_295 : Cond.code yX6_within cX6_within 3 (some .boolean) ∈ oh_t := oh_of (i := 295) (by decide +kernel) rfl
theorem q_384 : Cond.methodLink RX0 50 yX0_ofBridge ∈ oh_t := oh_of (i := 384) (by decide +kernel) rfl
theorem q_385 : Cond.instanceMethod yX0_ofBridge ∈ oh_t := oh_of (i := 385) (by decide +kernel) rfl
theorem q_386 : Cond.selects RX0 yX0_ofBridge yX0_ofBridge ∈ oh_t := oh_of (i := 386) (by decide +kernel) rfl
theorem q_387 : Cond.code yX0_ofBridge cX0_ofBridge 3 (some .int) ∈ oh_t := oh_of (i := 387) (by decide +kernel) rfl
theorem q_397 : Cond.methodLink RX0 60 yX0_believed ∈ oh_t := oh_of (i := 397) (by decide +kernel) rfl
theorem q_399 : Cond.instanceMethod yX0_believed ∈ oh_t := oh_of (i := 399) (by decide +kernel) rfl
theorem q_400 : Cond.code yX0_believed cX0_believed 5 (some .int) ∈ oh_t := oh_of (i := 400) (by decide +kernel) rfl
theorem q_444 : Cond.methodLink RX0 46 yX0_putBridgeColumn ∈ oh_t := oh_of (i := 444) (by decide +kernel) rfl
theorem q_445 : Cond.instanceMethod yX0_putBridgeColumn ∈ oh_t := oh_of (i := 445) (by decide +kernel) rfl
theorem q_446 : Cond.selects RX0 yX0_putBridgeColumn yX0_putBridgeColumn ∈ oh_t := oh_of (i := 446) (by decide +kernel) rfl
theorem q_447 : Cond.code yX0_putBridgeColumn cX0_putBridgeColumn 4 none ∈ oh_t := oh_of (i := 447) (by decide +kernel) rfl
theorem q_687 : Cond.methodLink RX0 54 yX0_ofWaggon ∈ oh_t := oh_of (i := 687) (by decide +kernel) rfl
theorem q_688 : Cond.instanceMethod yX0_ofWaggon ∈ oh_t := oh_of (i := 688) (by decide +kernel) rfl
theorem q_689 : Cond.selects RX0 yX0_ofWaggon yX0_ofWaggon ∈ oh_t := oh_of (i := 689) (by decide +kernel) rfl
theorem q_690 : Cond.code yX0_ofWaggon cX0_ofWaggon 3 (some .int) ∈ oh_t := oh_of (i := 690) (by decide +kernel) rfl
theorem pdVX0_believed : yX0_believed.cls = RX0 ∧ yX0_believed.cls ≠ "java/lang/invoke/MethodHandle" ∧ yX0_believed.cls ≠ "java/lang/invoke/VarHandle" ∧ (parseMethodDescriptor yX0_believed.desc).map (fun d => d.parameters.length) = some 2 := by decide +kernel
theorem pdVX0_ofBridge : yX0_ofBridge.cls = RX0 ∧ yX0_ofBridge.cls ≠ "java/lang/invoke/MethodHandle" ∧ yX0_ofBridge.cls ≠ "java/lang/invoke/VarHandle" ∧ (parseMethodDescriptor yX0_ofBridge.desc).map (fun d => d.parameters.length) = some 2 := by decide +kernel
theorem pdVX0_ofWaggon : yX0_ofWaggon.cls = RX0 ∧ yX0_ofWaggon.cls ≠ "java/lang/invoke/MethodHandle" ∧ yX0_ofWaggon.cls ≠ "java/lang/invoke/VarHandle" ∧ (parseMethodDescriptor yX0_ofWaggon.desc).map (fun d => d.parameters.length) = some 2 := by decide +kernel
theorem pdVX0_putBridgeColumn : yX0_putBridgeColumn.cls = RX0 ∧ yX0_putBridgeColumn.cls ≠ "java/lang/invoke/MethodHandle" ∧ yX0_putBridgeColumn.cls ≠ "java/lang/invoke/VarHandle" ∧ (parseMethodDescriptor yX0_putBridgeColumn.desc).map (fun d => d.parameters.length) = some 3 := by decide +kernel
theorem pdX6_within : yX6_within.cls ≠ "java/lang/invoke/MethodHandle" ∧ yX6_within.cls ≠ "java/lang/invoke/VarHandle" ∧ (parseMethodDescriptor yX6_within.desc).map (fun d => d.parameters.length) = some 3 := by decide +kernel
theorem dX0_addBridge_0 : decode cX0_addBridge 0 = .ok (.aload_n 0, 1) := by decide +kernel
theorem dX0_addBridge_1 : decode cX0_addBridge 1 = .ok (.getfield 13, 3) := by decide +kernel
theorem dX0_addBridge_4 : decode cX0_addBridge 4 = .ok (.iconst 1, 1) := by decide +kernel
theorem dX0_addBridge_5 : decode cX0_addBridge 5 = .ok (.iaload, 1) := by decide +kernel
theorem dX0_addBridge_6 : decode cX0_addBridge 6 = .ok (.bipush 10, 2) := by decide +kernel
theorem dX0_addBridge_8 : decode cX0_addBridge 8 = .ok (.imul, 1) := by decide +kernel
theorem dX0_addBridge_9 : decode cX0_addBridge 9 = .ok (.istore 6, 2) := by decide +kernel
theorem dX0_addBridge_11 : decode cX0_addBridge 11 = .ok (.aload_n 0, 1) := by decide +kernel
theorem dX0_addBridge_12 : decode cX0_addBridge 12 = .ok (.getfield 21, 3) := by decide +kernel
theorem dX0_addBridge_15 : decode cX0_addBridge 15 = .ok (.iload 6, 2) := by decide +kernel
theorem dX0_addBridge_17 : decode cX0_addBridge 17 = .ok (.iconst 0, 1) := by decide +kernel
theorem dX0_addBridge_18 : decode cX0_addBridge 18 = .ok (.iadd, 1) := by decide +kernel
theorem dX0_addBridge_19 : decode cX0_addBridge 19 = .ok (.iload_n 1, 1) := by decide +kernel
theorem dX0_addBridge_20 : decode cX0_addBridge 20 = .ok (.iastore, 1) := by decide +kernel
theorem dX0_addBridge_21 : decode cX0_addBridge 21 = .ok (.aload_n 0, 1) := by decide +kernel
theorem dX0_addBridge_22 : decode cX0_addBridge 22 = .ok (.getfield 21, 3) := by decide +kernel
theorem dX0_addBridge_25 : decode cX0_addBridge 25 = .ok (.iload 6, 2) := by decide +kernel
theorem dX0_addBridge_27 : decode cX0_addBridge 27 = .ok (.iconst 1, 1) := by decide +kernel
theorem dX0_addBridge_28 : decode cX0_addBridge 28 = .ok (.iadd, 1) := by decide +kernel
theorem dX0_addBridge_29 : decode cX0_addBridge 29 = .ok (.iload_n 2, 1) := by decide +kernel
theorem dX0_addBridge_30 : decode cX0_addBridge 30 = .ok (.iastore, 1) := by decide +kernel
theorem dX0_addBridge_31 : decode cX0_addBridge 31 = .ok (.aload_n 0, 1) := by decide +kernel
theorem dX0_addBridge_32 : decode cX0_addBridge 32 = .ok (.getfield 21, 3) := by decide +kernel
theorem dX0_addBridge_35 : decode cX0_addBridge 35 = .ok (.iload 6, 2) := by decide +kernel
theorem dX0_addBridge_37 : decode cX0_addBridge 37 = .ok (.iconst 2, 1) := by decide +kernel
theorem dX0_addBridge_38 : decode cX0_addBridge 38 = .ok (.iadd, 1) := by decide +kernel
theorem dX0_addBridge_39 : decode cX0_addBridge 39 = .ok (.iload_n 3, 1) := by decide +kernel
theorem dX0_addBridge_40 : decode cX0_addBridge 40 = .ok (.iastore, 1) := by decide +kernel
theorem dX0_addBridge_41 : decode cX0_addBridge 41 = .ok (.aload_n 0, 1) := by decide +kernel
theorem dX0_addBridge_42 : decode cX0_addBridge 42 = .ok (.getfield 21, 3) := by decide +kernel
theorem dX0_addBridge_45 : decode cX0_addBridge 45 = .ok (.iload 6, 2) := by decide +kernel
theorem dX0_addBridge_47 : decode cX0_addBridge 47 = .ok (.iconst 3, 1) := by decide +kernel
theorem dX0_addBridge_48 : decode cX0_addBridge 48 = .ok (.iadd, 1) := by decide +kernel
theorem dX0_addBridge_49 : decode cX0_addBridge 49 = .ok (.iload 4, 2) := by decide +kernel
theorem dX0_addBridge_51 : decode cX0_addBridge 51 = .ok (.iastore, 1) := by decide +kernel
theorem dX0_addBridge_52 : decode cX0_addBridge 52 = .ok (.aload_n 0, 1) := by decide +kernel
theorem dX0_addBridge_53 : decode cX0_addBridge 53 = .ok (.getfield 21, 3) := by decide +kernel
theorem dX0_addBridge_56 : decode cX0_addBridge 56 = .ok (.iload 6, 2) := by decide +kernel
theorem dX0_addBridge_58 : decode cX0_addBridge 58 = .ok (.iconst 4, 1) := by decide +kernel
theorem dX0_addBridge_59 : decode cX0_addBridge 59 = .ok (.iadd, 1) := by decide +kernel
theorem dX0_addBridge_60 : decode cX0_addBridge 60 = .ok (.iload 5, 2) := by decide +kernel
theorem dX0_addBridge_62 : decode cX0_addBridge 62 = .ok (.iastore, 1) := by decide +kernel
theorem dX0_addBridge_63 : decode cX0_addBridge 63 = .ok (.iconst 5, 1) := by decide +kernel
theorem dX0_addBridge_64 : decode cX0_addBridge 64 = .ok (.istore 7, 2) := by decide +kernel
theorem dX0_addBridge_66 : decode cX0_addBridge 66 = .ok (.iload 7, 2) := by decide +kernel
theorem dX0_addBridge_68 : decode cX0_addBridge 68 = .ok (.bipush 10, 2) := by decide +kernel
theorem dX0_addBridge_70 : decode cX0_addBridge 70 = .ok (.if_icmp .ge 20, 3) := by decide +kernel
theorem dX0_addBridge_73 : decode cX0_addBridge 73 = .ok (.aload_n 0, 1) := by decide +kernel
theorem dX0_addBridge_74 : decode cX0_addBridge 74 = .ok (.getfield 21, 3) := by decide +kernel
theorem dX0_addBridge_77 : decode cX0_addBridge 77 = .ok (.iload 6, 2) := by decide +kernel
theorem dX0_addBridge_79 : decode cX0_addBridge 79 = .ok (.iload 7, 2) := by decide +kernel
theorem dX0_addBridge_81 : decode cX0_addBridge 81 = .ok (.iadd, 1) := by decide +kernel
theorem dX0_addBridge_82 : decode cX0_addBridge 82 = .ok (.iconst 0, 1) := by decide +kernel
theorem dX0_addBridge_83 : decode cX0_addBridge 83 = .ok (.iastore, 1) := by decide +kernel
theorem dX0_addBridge_84 : decode cX0_addBridge 84 = .ok (.iinc 7 1, 3) := by decide +kernel
theorem dX0_addBridge_87 : decode cX0_addBridge 87 = .ok (.goto (-21), 3) := by decide +kernel
theorem dX0_addBridge_90 : decode cX0_addBridge 90 = .ok (.aload_n 0, 1) := by decide +kernel
theorem dX0_addBridge_91 : decode cX0_addBridge 91 = .ok (.getfield 13, 3) := by decide +kernel
theorem dX0_addBridge_94 : decode cX0_addBridge 94 = .ok (.iconst 1, 1) := by decide +kernel
theorem dX0_addBridge_95 : decode cX0_addBridge 95 = .ok (.dup2, 1) := by decide +kernel
theorem dX0_addBridge_96 : decode cX0_addBridge 96 = .ok (.iaload, 1) := by decide +kernel
theorem dX0_addBridge_97 : decode cX0_addBridge 97 = .ok (.dup_x2, 1) := by decide +kernel
theorem dX0_addBridge_98 : decode cX0_addBridge 98 = .ok (.iconst 1, 1) := by decide +kernel
theorem dX0_addBridge_99 : decode cX0_addBridge 99 = .ok (.iadd, 1) := by decide +kernel
theorem dX0_addBridge_100 : decode cX0_addBridge 100 = .ok (.iastore, 1) := by decide +kernel
theorem dX0_addBridge_101 : decode cX0_addBridge 101 = .ok (.ireturn, 1) := by decide +kernel
theorem dX0_addPart_0 : decode cX0_addPart 0 = .ok (.aload_n 0, 1) := by decide +kernel
theorem dX0_addPart_1 : decode cX0_addPart 1 = .ok (.getfield 13, 3) := by decide +kernel
theorem dX0_addPart_4 : decode cX0_addPart 4 = .ok (.iconst 3, 1) := by decide +kernel
theorem dX0_addPart_5 : decode cX0_addPart 5 = .ok (.iaload, 1) := by decide +kernel
theorem dX0_addPart_6 : decode cX0_addPart 6 = .ok (.iconst 2, 1) := by decide +kernel
theorem dX0_addPart_7 : decode cX0_addPart 7 = .ok (.imul, 1) := by decide +kernel
theorem dX0_addPart_8 : decode cX0_addPart 8 = .ok (.istore_n 3, 1) := by decide +kernel
theorem dX0_addPart_9 : decode cX0_addPart 9 = .ok (.aload_n 0, 1) := by decide +kernel
theorem dX0_addPart_10 : decode cX0_addPart 10 = .ok (.getfield 27, 3) := by decide +kernel
theorem dX0_addPart_13 : decode cX0_addPart 13 = .ok (.iload_n 3, 1) := by decide +kernel
theorem dX0_addPart_14 : decode cX0_addPart 14 = .ok (.iconst 0, 1) := by decide +kernel
theorem dX0_addPart_15 : decode cX0_addPart 15 = .ok (.iadd, 1) := by decide +kernel
theorem dX0_addPart_16 : decode cX0_addPart 16 = .ok (.iload_n 1, 1) := by decide +kernel
theorem dX0_addPart_17 : decode cX0_addPart 17 = .ok (.iastore, 1) := by decide +kernel
theorem dX0_addPart_18 : decode cX0_addPart 18 = .ok (.aload_n 0, 1) := by decide +kernel
theorem dX0_addPart_19 : decode cX0_addPart 19 = .ok (.getfield 27, 3) := by decide +kernel
theorem dX0_addPart_22 : decode cX0_addPart 22 = .ok (.iload_n 3, 1) := by decide +kernel
theorem dX0_addPart_23 : decode cX0_addPart 23 = .ok (.iconst 1, 1) := by decide +kernel
theorem dX0_addPart_24 : decode cX0_addPart 24 = .ok (.iadd, 1) := by decide +kernel
theorem dX0_addPart_25 : decode cX0_addPart 25 = .ok (.iload_n 2, 1) := by decide +kernel
theorem dX0_addPart_26 : decode cX0_addPart 26 = .ok (.iastore, 1) := by decide +kernel
theorem dX0_addPart_27 : decode cX0_addPart 27 = .ok (.aload_n 0, 1) := by decide +kernel
theorem dX0_addPart_28 : decode cX0_addPart 28 = .ok (.getfield 13, 3) := by decide +kernel
theorem dX0_addPart_31 : decode cX0_addPart 31 = .ok (.iconst 3, 1) := by decide +kernel
theorem dX0_addPart_32 : decode cX0_addPart 32 = .ok (.dup2, 1) := by decide +kernel
theorem dX0_addPart_33 : decode cX0_addPart 33 = .ok (.iaload, 1) := by decide +kernel
theorem dX0_addPart_34 : decode cX0_addPart 34 = .ok (.dup_x2, 1) := by decide +kernel
theorem dX0_addPart_35 : decode cX0_addPart 35 = .ok (.iconst 1, 1) := by decide +kernel
theorem dX0_addPart_36 : decode cX0_addPart 36 = .ok (.iadd, 1) := by decide +kernel
theorem dX0_addPart_37 : decode cX0_addPart 37 = .ok (.iastore, 1) := by decide +kernel
theorem dX0_addPart_38 : decode cX0_addPart 38 = .ok (.ireturn, 1) := by decide +kernel
theorem dX0_addRoad_0 : decode cX0_addRoad 0 = .ok (.aload_n 0, 1) := by decide +kernel
theorem dX0_addRoad_1 : decode cX0_addRoad 1 = .ok (.getfield 13, 3) := by decide +kernel
theorem dX0_addRoad_4 : decode cX0_addRoad 4 = .ok (.iconst 0, 1) := by decide +kernel
theorem dX0_addRoad_5 : decode cX0_addRoad 5 = .ok (.iaload, 1) := by decide +kernel
theorem dX0_addRoad_6 : decode cX0_addRoad 6 = .ok (.bipush 7, 2) := by decide +kernel
theorem dX0_addRoad_8 : decode cX0_addRoad 8 = .ok (.imul, 1) := by decide +kernel
theorem dX0_addRoad_9 : decode cX0_addRoad 9 = .ok (.istore 7, 2) := by decide +kernel
theorem dX0_addRoad_11 : decode cX0_addRoad 11 = .ok (.aload_n 0, 1) := by decide +kernel
theorem dX0_addRoad_12 : decode cX0_addRoad 12 = .ok (.getfield 18, 3) := by decide +kernel
theorem dX0_addRoad_15 : decode cX0_addRoad 15 = .ok (.iload 7, 2) := by decide +kernel
theorem dX0_addRoad_17 : decode cX0_addRoad 17 = .ok (.iconst 0, 1) := by decide +kernel
theorem dX0_addRoad_18 : decode cX0_addRoad 18 = .ok (.iadd, 1) := by decide +kernel
theorem dX0_addRoad_19 : decode cX0_addRoad 19 = .ok (.iload_n 1, 1) := by decide +kernel
theorem dX0_addRoad_20 : decode cX0_addRoad 20 = .ok (.iastore, 1) := by decide +kernel
theorem dX0_addRoad_21 : decode cX0_addRoad 21 = .ok (.aload_n 0, 1) := by decide +kernel
theorem dX0_addRoad_22 : decode cX0_addRoad 22 = .ok (.getfield 18, 3) := by decide +kernel
theorem dX0_addRoad_25 : decode cX0_addRoad 25 = .ok (.iload 7, 2) := by decide +kernel
theorem dX0_addRoad_27 : decode cX0_addRoad 27 = .ok (.iconst 1, 1) := by decide +kernel
theorem dX0_addRoad_28 : decode cX0_addRoad 28 = .ok (.iadd, 1) := by decide +kernel
theorem dX0_addRoad_29 : decode cX0_addRoad 29 = .ok (.iload_n 2, 1) := by decide +kernel
theorem dX0_addRoad_30 : decode cX0_addRoad 30 = .ok (.iastore, 1) := by decide +kernel
theorem dX0_addRoad_31 : decode cX0_addRoad 31 = .ok (.aload_n 0, 1) := by decide +kernel
theorem dX0_addRoad_32 : decode cX0_addRoad 32 = .ok (.getfield 18, 3) := by decide +kernel
theorem dX0_addRoad_35 : decode cX0_addRoad 35 = .ok (.iload 7, 2) := by decide +kernel
theorem dX0_addRoad_37 : decode cX0_addRoad 37 = .ok (.iconst 2, 1) := by decide +kernel
theorem dX0_addRoad_38 : decode cX0_addRoad 38 = .ok (.iadd, 1) := by decide +kernel
theorem dX0_addRoad_39 : decode cX0_addRoad 39 = .ok (.iload_n 3, 1) := by decide +kernel
theorem dX0_addRoad_40 : decode cX0_addRoad 40 = .ok (.iastore, 1) := by decide +kernel
theorem dX0_addRoad_41 : decode cX0_addRoad 41 = .ok (.aload_n 0, 1) := by decide +kernel
theorem dX0_addRoad_42 : decode cX0_addRoad 42 = .ok (.getfield 18, 3) := by decide +kernel
theorem dX0_addRoad_45 : decode cX0_addRoad 45 = .ok (.iload 7, 2) := by decide +kernel
theorem dX0_addRoad_47 : decode cX0_addRoad 47 = .ok (.iconst 3, 1) := by decide +kernel
theorem dX0_addRoad_48 : decode cX0_addRoad 48 = .ok (.iadd, 1) := by decide +kernel
theorem dX0_addRoad_49 : decode cX0_addRoad 49 = .ok (.iload 4, 2) := by decide +kernel
theorem dX0_addRoad_51 : decode cX0_addRoad 51 = .ok (.iastore, 1) := by decide +kernel
theorem dX0_addRoad_52 : decode cX0_addRoad 52 = .ok (.aload_n 0, 1) := by decide +kernel
theorem dX0_addRoad_53 : decode cX0_addRoad 53 = .ok (.getfield 18, 3) := by decide +kernel
theorem dX0_addRoad_56 : decode cX0_addRoad 56 = .ok (.iload 7, 2) := by decide +kernel
theorem dX0_addRoad_58 : decode cX0_addRoad 58 = .ok (.iconst 4, 1) := by decide +kernel
theorem dX0_addRoad_59 : decode cX0_addRoad 59 = .ok (.iadd, 1) := by decide +kernel
theorem dX0_addRoad_60 : decode cX0_addRoad 60 = .ok (.iload 5, 2) := by decide +kernel
theorem dX0_addRoad_62 : decode cX0_addRoad 62 = .ok (.iastore, 1) := by decide +kernel
theorem dX0_addRoad_63 : decode cX0_addRoad 63 = .ok (.aload_n 0, 1) := by decide +kernel
theorem dX0_addRoad_64 : decode cX0_addRoad 64 = .ok (.getfield 18, 3) := by decide +kernel
theorem dX0_addRoad_67 : decode cX0_addRoad 67 = .ok (.iload 7, 2) := by decide +kernel
theorem dX0_addRoad_69 : decode cX0_addRoad 69 = .ok (.iconst 5, 1) := by decide +kernel
theorem dX0_addRoad_70 : decode cX0_addRoad 70 = .ok (.iadd, 1) := by decide +kernel
theorem dX0_addRoad_71 : decode cX0_addRoad 71 = .ok (.iload 6, 2) := by decide +kernel
theorem dX0_addRoad_73 : decode cX0_addRoad 73 = .ok (.iastore, 1) := by decide +kernel
theorem dX0_addRoad_74 : decode cX0_addRoad 74 = .ok (.aload_n 0, 1) := by decide +kernel
theorem dX0_addRoad_75 : decode cX0_addRoad 75 = .ok (.getfield 18, 3) := by decide +kernel
theorem dX0_addRoad_78 : decode cX0_addRoad 78 = .ok (.iload 7, 2) := by decide +kernel
theorem dX0_addRoad_80 : decode cX0_addRoad 80 = .ok (.bipush 6, 2) := by decide +kernel
theorem dX0_addRoad_82 : decode cX0_addRoad 82 = .ok (.iadd, 1) := by decide +kernel
theorem dX0_addRoad_83 : decode cX0_addRoad 83 = .ok (.iconst 0, 1) := by decide +kernel
theorem dX0_addRoad_84 : decode cX0_addRoad 84 = .ok (.iastore, 1) := by decide +kernel
theorem dX0_addRoad_85 : decode cX0_addRoad 85 = .ok (.aload_n 0, 1) := by decide +kernel
theorem dX0_addRoad_86 : decode cX0_addRoad 86 = .ok (.getfield 13, 3) := by decide +kernel
theorem dX0_addRoad_89 : decode cX0_addRoad 89 = .ok (.iconst 0, 1) := by decide +kernel
theorem dX0_addRoad_90 : decode cX0_addRoad 90 = .ok (.dup2, 1) := by decide +kernel
theorem dX0_addRoad_91 : decode cX0_addRoad 91 = .ok (.iaload, 1) := by decide +kernel
theorem dX0_addRoad_92 : decode cX0_addRoad 92 = .ok (.dup_x2, 1) := by decide +kernel
theorem dX0_addRoad_93 : decode cX0_addRoad 93 = .ok (.iconst 1, 1) := by decide +kernel
theorem dX0_addRoad_94 : decode cX0_addRoad 94 = .ok (.iadd, 1) := by decide +kernel
theorem dX0_addRoad_95 : decode cX0_addRoad 95 = .ok (.iastore, 1) := by decide +kernel
theorem dX0_addRoad_96 : decode cX0_addRoad 96 = .ok (.ireturn, 1) := by decide +kernel
theorem dX0_addWaggon_0 : decode cX0_addWaggon 0 = .ok (.aload_n 0, 1) := by decide +kernel
theorem dX0_addWaggon_1 : decode cX0_addWaggon 1 = .ok (.getfield 13, 3) := by decide +kernel
theorem dX0_addWaggon_4 : decode cX0_addWaggon 4 = .ok (.iconst 2, 1) := by decide +kernel
theorem dX0_addWaggon_5 : decode cX0_addWaggon 5 = .ok (.iaload, 1) := by decide +kernel
theorem dX0_addWaggon_6 : decode cX0_addWaggon 6 = .ok (.iconst 3, 1) := by decide +kernel
theorem dX0_addWaggon_7 : decode cX0_addWaggon 7 = .ok (.imul, 1) := by decide +kernel
theorem dX0_addWaggon_8 : decode cX0_addWaggon 8 = .ok (.istore 4, 2) := by decide +kernel
theorem dX0_addWaggon_10 : decode cX0_addWaggon 10 = .ok (.aload_n 0, 1) := by decide +kernel
theorem dX0_addWaggon_11 : decode cX0_addWaggon 11 = .ok (.getfield 24, 3) := by decide +kernel
theorem dX0_addWaggon_14 : decode cX0_addWaggon 14 = .ok (.iload 4, 2) := by decide +kernel
theorem dX0_addWaggon_16 : decode cX0_addWaggon 16 = .ok (.iconst 0, 1) := by decide +kernel
theorem dX0_addWaggon_17 : decode cX0_addWaggon 17 = .ok (.iadd, 1) := by decide +kernel
theorem dX0_addWaggon_18 : decode cX0_addWaggon 18 = .ok (.iload_n 1, 1) := by decide +kernel
theorem dX0_addWaggon_19 : decode cX0_addWaggon 19 = .ok (.iastore, 1) := by decide +kernel
theorem dX0_addWaggon_20 : decode cX0_addWaggon 20 = .ok (.aload_n 0, 1) := by decide +kernel
theorem dX0_addWaggon_21 : decode cX0_addWaggon 21 = .ok (.getfield 24, 3) := by decide +kernel
theorem dX0_addWaggon_24 : decode cX0_addWaggon 24 = .ok (.iload 4, 2) := by decide +kernel
theorem dX0_addWaggon_26 : decode cX0_addWaggon 26 = .ok (.iconst 1, 1) := by decide +kernel
theorem dX0_addWaggon_27 : decode cX0_addWaggon 27 = .ok (.iadd, 1) := by decide +kernel
theorem dX0_addWaggon_28 : decode cX0_addWaggon 28 = .ok (.iload_n 2, 1) := by decide +kernel
theorem dX0_addWaggon_29 : decode cX0_addWaggon 29 = .ok (.iastore, 1) := by decide +kernel
theorem dX0_addWaggon_30 : decode cX0_addWaggon 30 = .ok (.aload_n 0, 1) := by decide +kernel
theorem dX0_addWaggon_31 : decode cX0_addWaggon 31 = .ok (.getfield 24, 3) := by decide +kernel
theorem dX0_addWaggon_34 : decode cX0_addWaggon 34 = .ok (.iload 4, 2) := by decide +kernel
theorem dX0_addWaggon_36 : decode cX0_addWaggon 36 = .ok (.iconst 2, 1) := by decide +kernel
theorem dX0_addWaggon_37 : decode cX0_addWaggon 37 = .ok (.iadd, 1) := by decide +kernel
theorem dX0_addWaggon_38 : decode cX0_addWaggon 38 = .ok (.iload_n 3, 1) := by decide +kernel
theorem dX0_addWaggon_39 : decode cX0_addWaggon 39 = .ok (.iastore, 1) := by decide +kernel
theorem dX0_addWaggon_40 : decode cX0_addWaggon 40 = .ok (.aload_n 0, 1) := by decide +kernel
theorem dX0_addWaggon_41 : decode cX0_addWaggon 41 = .ok (.getfield 13, 3) := by decide +kernel
theorem dX0_addWaggon_44 : decode cX0_addWaggon 44 = .ok (.iconst 2, 1) := by decide +kernel
theorem dX0_addWaggon_45 : decode cX0_addWaggon 45 = .ok (.dup2, 1) := by decide +kernel
theorem dX0_addWaggon_46 : decode cX0_addWaggon 46 = .ok (.iaload, 1) := by decide +kernel
theorem dX0_addWaggon_47 : decode cX0_addWaggon 47 = .ok (.dup_x2, 1) := by decide +kernel
theorem dX0_addWaggon_48 : decode cX0_addWaggon 48 = .ok (.iconst 1, 1) := by decide +kernel
theorem dX0_addWaggon_49 : decode cX0_addWaggon 49 = .ok (.iadd, 1) := by decide +kernel
theorem dX0_addWaggon_50 : decode cX0_addWaggon 50 = .ok (.iastore, 1) := by decide +kernel
theorem dX0_addWaggon_51 : decode cX0_addWaggon 51 = .ok (.ireturn, 1) := by decide +kernel
theorem dX0_bearsAll_0 : decode cX0_bearsAll 0 = .ok (.iload_n 1, 1) := by decide +kernel
theorem dX0_bearsAll_1 : decode cX0_bearsAll 1 = .ok (.bipush 10, 2) := by decide +kernel
theorem dX0_bearsAll_3 : decode cX0_bearsAll 3 = .ok (.imul, 1) := by decide +kernel
theorem dX0_bearsAll_4 : decode cX0_bearsAll 4 = .ok (.istore_n 3, 1) := by decide +kernel
theorem dX0_bearsAll_5 : decode cX0_bearsAll 5 = .ok (.aload_n 0, 1) := by decide +kernel
theorem dX0_bearsAll_6 : decode cX0_bearsAll 6 = .ok (.getfield 21, 3) := by decide +kernel
theorem dX0_bearsAll_9 : decode cX0_bearsAll 9 = .ok (.iload_n 3, 1) := by decide +kernel
theorem dX0_bearsAll_10 : decode cX0_bearsAll 10 = .ok (.iconst 1, 1) := by decide +kernel
theorem dX0_bearsAll_11 : decode cX0_bearsAll 11 = .ok (.iadd, 1) := by decide +kernel
theorem dX0_bearsAll_12 : decode cX0_bearsAll 12 = .ok (.iaload, 1) := by decide +kernel
theorem dX0_bearsAll_13 : decode cX0_bearsAll 13 = .ok (.istore 4, 2) := by decide +kernel
theorem dX0_bearsAll_15 : decode cX0_bearsAll 15 = .ok (.aload_n 0, 1) := by decide +kernel
theorem dX0_bearsAll_16 : decode cX0_bearsAll 16 = .ok (.getfield 21, 3) := by decide +kernel
theorem dX0_bearsAll_19 : decode cX0_bearsAll 19 = .ok (.iload_n 3, 1) := by decide +kernel
theorem dX0_bearsAll_20 : decode cX0_bearsAll 20 = .ok (.iconst 4, 1) := by decide +kernel
theorem dX0_bearsAll_21 : decode cX0_bearsAll 21 = .ok (.iadd, 1) := by decide +kernel
theorem dX0_bearsAll_22 : decode cX0_bearsAll 22 = .ok (.iaload, 1) := by decide +kernel
theorem dX0_bearsAll_23 : decode cX0_bearsAll 23 = .ok (.istore 5, 2) := by decide +kernel
theorem dX0_bearsAll_25 : decode cX0_bearsAll 25 = .ok (.iload 4, 2) := by decide +kernel
theorem dX0_bearsAll_27 : decode cX0_bearsAll 27 = .ok (.iconst 1, 1) := by decide +kernel
theorem dX0_bearsAll_28 : decode cX0_bearsAll 28 = .ok (.if_icmp .eq 9, 3) := by decide +kernel
theorem dX0_bearsAll_31 : decode cX0_bearsAll 31 = .ok (.iload 4, 2) := by decide +kernel
theorem dX0_bearsAll_33 : decode cX0_bearsAll 33 = .ok (.iconst 2, 1) := by decide +kernel
theorem dX0_bearsAll_34 : decode cX0_bearsAll 34 = .ok (.if_icmp .ne 7, 3) := by decide +kernel
theorem dX0_bearsAll_37 : decode cX0_bearsAll 37 = .ok (.iconst 1, 1) := by decide +kernel
theorem dX0_bearsAll_38 : decode cX0_bearsAll 38 = .ok (.goto 4, 3) := by decide +kernel
theorem dX0_bearsAll_41 : decode cX0_bearsAll 41 = .ok (.iconst 0, 1) := by decide +kernel
theorem dX0_bearsAll_42 : decode cX0_bearsAll 42 = .ok (.istore 6, 2) := by decide +kernel
theorem dX0_bearsAll_44 : decode cX0_bearsAll 44 = .ok (.aload_n 0, 1) := by decide +kernel
theorem dX0_bearsAll_45 : decode cX0_bearsAll 45 = .ok (.iload_n 3, 1) := by decide +kernel
theorem dX0_bearsAll_46 : decode cX0_bearsAll 46 = .ok (.iload 6, 2) := by decide +kernel
theorem dX0_bearsAll_48 : decode cX0_bearsAll 48 = .ok (.ifCond .eq 14, 3) := by decide +kernel
theorem dX0_bearsAll_51 : decode cX0_bearsAll 51 = .ok (.iload 5, 2) := by decide +kernel
theorem dX0_bearsAll_53 : decode cX0_bearsAll 53 = .ok (.iload 5, 2) := by decide +kernel
theorem dX0_bearsAll_55 : decode cX0_bearsAll 55 = .ok (.bipush 10, 2) := by decide +kernel
theorem dX0_bearsAll_57 : decode cX0_bearsAll 57 = .ok (.idiv, 1) := by decide +kernel
theorem dX0_bearsAll_58 : decode cX0_bearsAll 58 = .ok (.iadd, 1) := by decide +kernel
theorem dX0_bearsAll_59 : decode cX0_bearsAll 59 = .ok (.goto 5, 3) := by decide +kernel
theorem dX0_bearsAll_62 : decode cX0_bearsAll 62 = .ok (.iload 5, 2) := by decide +kernel
theorem dX0_bearsAll_64 : decode cX0_bearsAll 64 = .ok (.invokevirtual 60, 3) := by decide +kernel
theorem dX0_bearsAll_67 : decode cX0_bearsAll 67 = .ok (.istore 7, 2) := by decide +kernel
theorem dX0_bearsAll_69 : decode cX0_bearsAll 69 = .ok (.iload_n 2, 1) := by decide +kernel
theorem dX0_bearsAll_70 : decode cX0_bearsAll 70 = .ok (.ifCond .eq 29, 3) := by decide +kernel
theorem dX0_bearsAll_73 : decode cX0_bearsAll 73 = .ok (.aload_n 0, 1) := by decide +kernel
theorem dX0_bearsAll_74 : decode cX0_bearsAll 74 = .ok (.getfield 21, 3) := by decide +kernel
theorem dX0_bearsAll_77 : decode cX0_bearsAll 77 = .ok (.iload_n 3, 1) := by decide +kernel
theorem dX0_bearsAll_78 : decode cX0_bearsAll 78 = .ok (.bipush 8, 2) := by decide +kernel
theorem dX0_bearsAll_80 : decode cX0_bearsAll 80 = .ok (.iadd, 1) := by decide +kernel
theorem dX0_bearsAll_81 : decode cX0_bearsAll 81 = .ok (.iaload, 1) := by decide +kernel
theorem dX0_bearsAll_82 : decode cX0_bearsAll 82 = .ok (.ifCond .ne 17, 3) := by decide +kernel
theorem dX0_bearsAll_85 : decode cX0_bearsAll 85 = .ok (.iload 7, 2) := by decide +kernel
theorem dX0_bearsAll_87 : decode cX0_bearsAll 87 = .ok (.aload_n 0, 1) := by decide +kernel
theorem dX0_bearsAll_88 : decode cX0_bearsAll 88 = .ok (.getfield 21, 3) := by decide +kernel
theorem dX0_bearsAll_91 : decode cX0_bearsAll 91 = .ok (.iload_n 3, 1) := by decide +kernel
theorem dX0_bearsAll_92 : decode cX0_bearsAll 92 = .ok (.iconst 5, 1) := by decide +kernel
theorem dX0_bearsAll_93 : decode cX0_bearsAll 93 = .ok (.iadd, 1) := by decide +kernel
theorem dX0_bearsAll_94 : decode cX0_bearsAll 94 = .ok (.iaload, 1) := by decide +kernel
theorem dX0_bearsAll_95 : decode cX0_bearsAll 95 = .ok (.iadd, 1) := by decide +kernel
theorem dX0_bearsAll_96 : decode cX0_bearsAll 96 = .ok (.goto 5, 3) := by decide +kernel
theorem dX0_bearsAll_99 : decode cX0_bearsAll 99 = .ok (.iload 7, 2) := by decide +kernel
theorem dX0_bearsAll_101 : decode cX0_bearsAll 101 = .ok (.ireturn, 1) := by decide +kernel
theorem dX0_bearsAxle_0 : decode cX0_bearsAxle 0 = .ok (.iload_n 1, 1) := by decide +kernel
theorem dX0_bearsAxle_1 : decode cX0_bearsAxle 1 = .ok (.bipush 10, 2) := by decide +kernel
theorem dX0_bearsAxle_3 : decode cX0_bearsAxle 3 = .ok (.imul, 1) := by decide +kernel
theorem dX0_bearsAxle_4 : decode cX0_bearsAxle 4 = .ok (.istore_n 2, 1) := by decide +kernel
theorem dX0_bearsAxle_5 : decode cX0_bearsAxle 5 = .ok (.aload_n 0, 1) := by decide +kernel
theorem dX0_bearsAxle_6 : decode cX0_bearsAxle 6 = .ok (.getfield 21, 3) := by decide +kernel
theorem dX0_bearsAxle_9 : decode cX0_bearsAxle 9 = .ok (.iload_n 2, 1) := by decide +kernel
theorem dX0_bearsAxle_10 : decode cX0_bearsAxle 10 = .ok (.iconst 3, 1) := by decide +kernel
theorem dX0_bearsAxle_11 : decode cX0_bearsAxle 11 = .ok (.iadd, 1) := by decide +kernel
theorem dX0_bearsAxle_12 : decode cX0_bearsAxle 12 = .ok (.iaload, 1) := by decide +kernel
theorem dX0_bearsAxle_13 : decode cX0_bearsAxle 13 = .ok (.istore_n 3, 1) := by decide +kernel
theorem dX0_bearsAxle_14 : decode cX0_bearsAxle 14 = .ok (.aload_n 0, 1) := by decide +kernel
theorem dX0_bearsAxle_15 : decode cX0_bearsAxle 15 = .ok (.iload_n 2, 1) := by decide +kernel
theorem dX0_bearsAxle_16 : decode cX0_bearsAxle 16 = .ok (.aload_n 0, 1) := by decide +kernel
theorem dX0_bearsAxle_17 : decode cX0_bearsAxle 17 = .ok (.getfield 21, 3) := by decide +kernel
theorem dX0_bearsAxle_20 : decode cX0_bearsAxle 20 = .ok (.iload_n 2, 1) := by decide +kernel
theorem dX0_bearsAxle_21 : decode cX0_bearsAxle 21 = .ok (.iconst 1, 1) := by decide +kernel
theorem dX0_bearsAxle_22 : decode cX0_bearsAxle 22 = .ok (.iadd, 1) := by decide +kernel
theorem dX0_bearsAxle_23 : decode cX0_bearsAxle 23 = .ok (.iaload, 1) := by decide +kernel
theorem dX0_bearsAxle_24 : decode cX0_bearsAxle 24 = .ok (.iconst 2, 1) := by decide +kernel
theorem dX0_bearsAxle_25 : decode cX0_bearsAxle 25 = .ok (.if_icmp .ne 9, 3) := by decide +kernel
theorem dX0_bearsAxle_28 : decode cX0_bearsAxle 28 = .ok (.iload_n 3, 1) := by decide +kernel
theorem dX0_bearsAxle_29 : decode cX0_bearsAxle 29 = .ok (.iconst 5, 1) := by decide +kernel
theorem dX0_bearsAxle_30 : decode cX0_bearsAxle 30 = .ok (.iadd, 1) := by decide +kernel
theorem dX0_bearsAxle_31 : decode cX0_bearsAxle 31 = .ok (.goto 4, 3) := by decide +kernel
theorem dX0_bearsAxle_34 : decode cX0_bearsAxle 34 = .ok (.iload_n 3, 1) := by decide +kernel
theorem dX0_bearsAxle_35 : decode cX0_bearsAxle 35 = .ok (.invokevirtual 60, 3) := by decide +kernel
theorem dX0_bearsAxle_38 : decode cX0_bearsAxle 38 = .ok (.ireturn, 1) := by decide +kernel
theorem dX0_believed_0 : decode cX0_believed 0 = .ok (.aload_n 0, 1) := by decide +kernel
theorem dX0_believed_1 : decode cX0_believed 1 = .ok (.getfield 21, 3) := by decide +kernel
theorem dX0_believed_4 : decode cX0_believed 4 = .ok (.iload_n 1, 1) := by decide +kernel
theorem dX0_believed_5 : decode cX0_believed 5 = .ok (.iconst 1, 1) := by decide +kernel
theorem dX0_believed_6 : decode cX0_believed 6 = .ok (.iadd, 1) := by decide +kernel
theorem dX0_believed_7 : decode cX0_believed 7 = .ok (.iaload, 1) := by decide +kernel
theorem dX0_believed_8 : decode cX0_believed 8 = .ok (.istore_n 3, 1) := by decide +kernel
theorem dX0_believed_9 : decode cX0_believed 9 = .ok (.aload_n 0, 1) := by decide +kernel
theorem dX0_believed_10 : decode cX0_believed 10 = .ok (.getfield 21, 3) := by decide +kernel
theorem dX0_believed_13 : decode cX0_believed 13 = .ok (.iload_n 1, 1) := by decide +kernel
theorem dX0_believed_14 : decode cX0_believed 14 = .ok (.bipush 8, 2) := by decide +kernel
theorem dX0_believed_16 : decode cX0_believed 16 = .ok (.iadd, 1) := by decide +kernel
theorem dX0_believed_17 : decode cX0_believed 17 = .ok (.iaload, 1) := by decide +kernel
theorem dX0_believed_18 : decode cX0_believed 18 = .ok (.iconst 1, 1) := by decide +kernel
theorem dX0_believed_19 : decode cX0_believed 19 = .ok (.if_icmp .eq 17, 3) := by decide +kernel
theorem dX0_believed_22 : decode cX0_believed 22 = .ok (.iload_n 3, 1) := by decide +kernel
theorem dX0_believed_23 : decode cX0_believed 23 = .ok (.iconst 5, 1) := by decide +kernel
theorem dX0_believed_24 : decode cX0_believed 24 = .ok (.if_icmp .ne 14, 3) := by decide +kernel
theorem dX0_believed_27 : decode cX0_believed 27 = .ok (.aload_n 0, 1) := by decide +kernel
theorem dX0_believed_28 : decode cX0_believed 28 = .ok (.getfield 30, 3) := by decide +kernel
theorem dX0_believed_31 : decode cX0_believed 31 = .ok (.iconst 2, 1) := by decide +kernel
theorem dX0_believed_32 : decode cX0_believed 32 = .ok (.iaload, 1) := by decide +kernel
theorem dX0_believed_33 : decode cX0_believed 33 = .ok (.ifCond .ne 5, 3) := by decide +kernel
theorem dX0_believed_36 : decode cX0_believed 36 = .ok (.iconst 0, 1) := by decide +kernel
theorem dX0_believed_37 : decode cX0_believed 37 = .ok (.ireturn, 1) := by decide +kernel
theorem dX0_believed_38 : decode cX0_believed 38 = .ok (.iload_n 3, 1) := by decide +kernel
theorem dX0_believed_39 : decode cX0_believed 39 = .ok (.iconst 4, 1) := by decide +kernel
theorem dX0_believed_40 : decode cX0_believed 40 = .ok (.if_icmp .eq 8, 3) := by decide +kernel
theorem dX0_believed_43 : decode cX0_believed 43 = .ok (.iload_n 3, 1) := by decide +kernel
theorem dX0_believed_44 : decode cX0_believed 44 = .ok (.iconst 5, 1) := by decide +kernel
theorem dX0_believed_45 : decode cX0_believed 45 = .ok (.if_icmp .ne 7, 3) := by decide +kernel
theorem dX0_believed_48 : decode cX0_believed 48 = .ok (.iconst 1, 1) := by decide +kernel
theorem dX0_believed_49 : decode cX0_believed 49 = .ok (.goto 4, 3) := by decide +kernel
theorem dX0_believed_52 : decode cX0_believed 52 = .ok (.iconst 0, 1) := by decide +kernel
theorem dX0_believed_53 : decode cX0_believed 53 = .ok (.istore 4, 2) := by decide +kernel
theorem dX0_believed_55 : decode cX0_believed 55 = .ok (.iload 4, 2) := by decide +kernel
theorem dX0_believed_57 : decode cX0_believed 57 = .ok (.ifCond .eq 21, 3) := by decide +kernel
theorem dX0_believed_60 : decode cX0_believed 60 = .ok (.aload_n 0, 1) := by decide +kernel
theorem dX0_believed_61 : decode cX0_believed 61 = .ok (.getfield 21, 3) := by decide +kernel
theorem dX0_believed_64 : decode cX0_believed 64 = .ok (.iload_n 1, 1) := by decide +kernel
theorem dX0_believed_65 : decode cX0_believed 65 = .ok (.bipush 9, 2) := by decide +kernel
theorem dX0_believed_67 : decode cX0_believed 67 = .ok (.iadd, 1) := by decide +kernel
theorem dX0_believed_68 : decode cX0_believed 68 = .ok (.iaload, 1) := by decide +kernel
theorem dX0_believed_69 : decode cX0_believed 69 = .ok (.ifCond .ne 9, 3) := by decide +kernel
theorem dX0_believed_72 : decode cX0_believed 72 = .ok (.iload_n 2, 1) := by decide +kernel
theorem dX0_believed_73 : decode cX0_believed 73 = .ok (.iconst 2, 1) := by decide +kernel
theorem dX0_believed_74 : decode cX0_believed 74 = .ok (.idiv, 1) := by decide +kernel
theorem dX0_believed_75 : decode cX0_believed 75 = .ok (.goto 4, 3) := by decide +kernel
theorem dX0_believed_78 : decode cX0_believed 78 = .ok (.iload_n 2, 1) := by decide +kernel
theorem dX0_believed_79 : decode cX0_believed 79 = .ok (.ireturn, 1) := by decide +kernel
theorem dX0_hasRoom_0 : decode cX0_hasRoom 0 = .ok (.aload_n 0, 1) := by decide +kernel
theorem dX0_hasRoom_1 : decode cX0_hasRoom 1 = .ok (.getfield 13, 3) := by decide +kernel
theorem dX0_hasRoom_4 : decode cX0_hasRoom 4 = .ok (.iload_n 1, 1) := by decide +kernel
theorem dX0_hasRoom_5 : decode cX0_hasRoom 5 = .ok (.iaload, 1) := by decide +kernel
theorem dX0_hasRoom_6 : decode cX0_hasRoom 6 = .ok (.getstatic 9, 3) := by decide +kernel
theorem dX0_hasRoom_9 : decode cX0_hasRoom 9 = .ok (.iload_n 1, 1) := by decide +kernel
theorem dX0_hasRoom_10 : decode cX0_hasRoom 10 = .ok (.iaload, 1) := by decide +kernel
theorem dX0_hasRoom_11 : decode cX0_hasRoom 11 = .ok (.if_icmp .ge 7, 3) := by decide +kernel
theorem dX0_hasRoom_14 : decode cX0_hasRoom 14 = .ok (.iconst 1, 1) := by decide +kernel
theorem dX0_hasRoom_15 : decode cX0_hasRoom 15 = .ok (.goto 4, 3) := by decide +kernel
theorem dX0_hasRoom_18 : decode cX0_hasRoom 18 = .ok (.iconst 0, 1) := by decide +kernel
theorem dX0_hasRoom_19 : decode cX0_hasRoom 19 = .ok (.ireturn, 1) := by decide +kernel
theorem dX0_isPropped_0 : decode cX0_isPropped 0 = .ok (.aload_n 0, 1) := by decide +kernel
theorem dX0_isPropped_1 : decode cX0_isPropped 1 = .ok (.iload_n 1, 1) := by decide +kernel
theorem dX0_isPropped_2 : decode cX0_isPropped 2 = .ok (.bipush 7, 2) := by decide +kernel
theorem dX0_isPropped_4 : decode cX0_isPropped 4 = .ok (.invokevirtual 50, 3) := by decide +kernel
theorem dX0_isPropped_7 : decode cX0_isPropped 7 = .ok (.iconst 1, 1) := by decide +kernel
theorem dX0_isPropped_8 : decode cX0_isPropped 8 = .ok (.if_icmp .ne 7, 3) := by decide +kernel
theorem dX0_isPropped_11 : decode cX0_isPropped 11 = .ok (.iconst 1, 1) := by decide +kernel
theorem dX0_isPropped_12 : decode cX0_isPropped 12 = .ok (.goto 4, 3) := by decide +kernel
theorem dX0_isPropped_15 : decode cX0_isPropped 15 = .ok (.iconst 0, 1) := by decide +kernel
theorem dX0_isPropped_16 : decode cX0_isPropped 16 = .ok (.ireturn, 1) := by decide +kernel
theorem dX0_ofBridge_0 : decode cX0_ofBridge 0 = .ok (.aload_n 0, 1) := by decide +kernel
theorem dX0_ofBridge_1 : decode cX0_ofBridge 1 = .ok (.getfield 21, 3) := by decide +kernel
theorem dX0_ofBridge_4 : decode cX0_ofBridge 4 = .ok (.iload_n 1, 1) := by decide +kernel
theorem dX0_ofBridge_5 : decode cX0_ofBridge 5 = .ok (.bipush 10, 2) := by decide +kernel
theorem dX0_ofBridge_7 : decode cX0_ofBridge 7 = .ok (.imul, 1) := by decide +kernel
theorem dX0_ofBridge_8 : decode cX0_ofBridge 8 = .ok (.iload_n 2, 1) := by decide +kernel
theorem dX0_ofBridge_9 : decode cX0_ofBridge 9 = .ok (.iadd, 1) := by decide +kernel
theorem dX0_ofBridge_10 : decode cX0_ofBridge 10 = .ok (.iaload, 1) := by decide +kernel
theorem dX0_ofBridge_11 : decode cX0_ofBridge 11 = .ok (.ireturn, 1) := by decide +kernel
theorem dX0_ofRoad_0 : decode cX0_ofRoad 0 = .ok (.aload_n 0, 1) := by decide +kernel
theorem dX0_ofRoad_1 : decode cX0_ofRoad 1 = .ok (.getfield 18, 3) := by decide +kernel
theorem dX0_ofRoad_4 : decode cX0_ofRoad 4 = .ok (.iload_n 1, 1) := by decide +kernel
theorem dX0_ofRoad_5 : decode cX0_ofRoad 5 = .ok (.bipush 7, 2) := by decide +kernel
theorem dX0_ofRoad_7 : decode cX0_ofRoad 7 = .ok (.imul, 1) := by decide +kernel
theorem dX0_ofRoad_8 : decode cX0_ofRoad 8 = .ok (.iload_n 2, 1) := by decide +kernel
theorem dX0_ofRoad_9 : decode cX0_ofRoad 9 = .ok (.iadd, 1) := by decide +kernel
theorem dX0_ofRoad_10 : decode cX0_ofRoad 10 = .ok (.iaload, 1) := by decide +kernel
theorem dX0_ofRoad_11 : decode cX0_ofRoad 11 = .ok (.ireturn, 1) := by decide +kernel
theorem dX0_ofWaggon_0 : decode cX0_ofWaggon 0 = .ok (.aload_n 0, 1) := by decide +kernel
theorem dX0_ofWaggon_1 : decode cX0_ofWaggon 1 = .ok (.getfield 24, 3) := by decide +kernel
theorem dX0_ofWaggon_4 : decode cX0_ofWaggon 4 = .ok (.iload_n 1, 1) := by decide +kernel
theorem dX0_ofWaggon_5 : decode cX0_ofWaggon 5 = .ok (.iconst 3, 1) := by decide +kernel
theorem dX0_ofWaggon_6 : decode cX0_ofWaggon 6 = .ok (.imul, 1) := by decide +kernel
theorem dX0_ofWaggon_7 : decode cX0_ofWaggon 7 = .ok (.iload_n 2, 1) := by decide +kernel
theorem dX0_ofWaggon_8 : decode cX0_ofWaggon 8 = .ok (.iadd, 1) := by decide +kernel
theorem dX0_ofWaggon_9 : decode cX0_ofWaggon 9 = .ok (.iaload, 1) := by decide +kernel
theorem dX0_ofWaggon_10 : decode cX0_ofWaggon 10 = .ok (.ireturn, 1) := by decide +kernel
theorem dX0_putBridgeColumn_0 : decode cX0_putBridgeColumn 0 = .ok (.aload_n 0, 1) := by decide +kernel
theorem dX0_putBridgeColumn_1 : decode cX0_putBridgeColumn 1 = .ok (.getfield 21, 3) := by decide +kernel
theorem dX0_putBridgeColumn_4 : decode cX0_putBridgeColumn 4 = .ok (.iload_n 1, 1) := by decide +kernel
theorem dX0_putBridgeColumn_5 : decode cX0_putBridgeColumn 5 = .ok (.bipush 10, 2) := by decide +kernel
theorem dX0_putBridgeColumn_7 : decode cX0_putBridgeColumn 7 = .ok (.imul, 1) := by decide +kernel
theorem dX0_putBridgeColumn_8 : decode cX0_putBridgeColumn 8 = .ok (.iload_n 2, 1) := by decide +kernel
theorem dX0_putBridgeColumn_9 : decode cX0_putBridgeColumn 9 = .ok (.iadd, 1) := by decide +kernel
theorem dX0_putBridgeColumn_10 : decode cX0_putBridgeColumn 10 = .ok (.iload_n 3, 1) := by decide +kernel
theorem dX0_putBridgeColumn_11 : decode cX0_putBridgeColumn 11 = .ok (.iastore, 1) := by decide +kernel
theorem dX0_putBridgeColumn_12 : decode cX0_putBridgeColumn 12 = .ok (.return_, 1) := by decide +kernel
theorem dX0_putProp_0 : decode cX0_putProp 0 = .ok (.aload_n 0, 1) := by decide +kernel
theorem dX0_putProp_1 : decode cX0_putProp 1 = .ok (.iload_n 1, 1) := by decide +kernel
theorem dX0_putProp_2 : decode cX0_putProp 2 = .ok (.iconst 5, 1) := by decide +kernel
theorem dX0_putProp_3 : decode cX0_putProp 3 = .ok (.iload_n 2, 1) := by decide +kernel
theorem dX0_putProp_4 : decode cX0_putProp 4 = .ok (.invokevirtual 46, 3) := by decide +kernel
theorem dX0_putProp_7 : decode cX0_putProp 7 = .ok (.aload_n 0, 1) := by decide +kernel
theorem dX0_putProp_8 : decode cX0_putProp 8 = .ok (.iload_n 1, 1) := by decide +kernel
theorem dX0_putProp_9 : decode cX0_putProp 9 = .ok (.bipush 6, 2) := by decide +kernel
theorem dX0_putProp_11 : decode cX0_putProp 11 = .ok (.iload_n 3, 1) := by decide +kernel
theorem dX0_putProp_12 : decode cX0_putProp 12 = .ok (.invokevirtual 46, 3) := by decide +kernel
theorem dX0_putProp_15 : decode cX0_putProp 15 = .ok (.return_, 1) := by decide +kernel
theorem dX0_setsOfParts_0 : decode cX0_setsOfParts 0 = .ok (.iconst 1, 1) := by decide +kernel
theorem dX0_setsOfParts_1 : decode cX0_setsOfParts 1 = .ok (.aload_n 0, 1) := by decide +kernel
theorem dX0_setsOfParts_2 : decode cX0_setsOfParts 2 = .ok (.getfield 13, 3) := by decide +kernel
theorem dX0_setsOfParts_5 : decode cX0_setsOfParts 5 = .ok (.iconst 3, 1) := by decide +kernel
theorem dX0_setsOfParts_6 : decode cX0_setsOfParts 6 = .ok (.iaload, 1) := by decide +kernel
theorem dX0_setsOfParts_7 : decode cX0_setsOfParts 7 = .ok (.ishl, 1) := by decide +kernel
theorem dX0_setsOfParts_8 : decode cX0_setsOfParts 8 = .ok (.ireturn, 1) := by decide +kernel
theorem dX0_startTrip_0 : decode cX0_startTrip 0 = .ok (.aload_n 0, 1) := by decide +kernel
theorem dX0_startTrip_1 : decode cX0_startTrip 1 = .ok (.getfield 33, 3) := by decide +kernel
theorem dX0_startTrip_4 : decode cX0_startTrip 4 = .ok (.iconst 0, 1) := by decide +kernel
theorem dX0_startTrip_5 : decode cX0_startTrip 5 = .ok (.iload_n 3, 1) := by decide +kernel
theorem dX0_startTrip_6 : decode cX0_startTrip 6 = .ok (.iastore, 1) := by decide +kernel
theorem dX0_startTrip_7 : decode cX0_startTrip 7 = .ok (.aload_n 0, 1) := by decide +kernel
theorem dX0_startTrip_8 : decode cX0_startTrip 8 = .ok (.getfield 33, 3) := by decide +kernel
theorem dX0_startTrip_11 : decode cX0_startTrip 11 = .ok (.iconst 1, 1) := by decide +kernel
theorem dX0_startTrip_12 : decode cX0_startTrip 12 = .ok (.iload 4, 2) := by decide +kernel
theorem dX0_startTrip_14 : decode cX0_startTrip 14 = .ok (.iastore, 1) := by decide +kernel
theorem dX0_startTrip_15 : decode cX0_startTrip 15 = .ok (.aload_n 0, 1) := by decide +kernel
theorem dX0_startTrip_16 : decode cX0_startTrip 16 = .ok (.getfield 33, 3) := by decide +kernel
theorem dX0_startTrip_19 : decode cX0_startTrip 19 = .ok (.iconst 2, 1) := by decide +kernel
theorem dX0_startTrip_20 : decode cX0_startTrip 20 = .ok (.iload 5, 2) := by decide +kernel
theorem dX0_startTrip_22 : decode cX0_startTrip 22 = .ok (.iastore, 1) := by decide +kernel
theorem dX0_startTrip_23 : decode cX0_startTrip 23 = .ok (.aload_n 0, 1) := by decide +kernel
theorem dX0_startTrip_24 : decode cX0_startTrip 24 = .ok (.getfield 33, 3) := by decide +kernel
theorem dX0_startTrip_27 : decode cX0_startTrip 27 = .ok (.iconst 3, 1) := by decide +kernel
theorem dX0_startTrip_28 : decode cX0_startTrip 28 = .ok (.iconst 0, 1) := by decide +kernel
theorem dX0_startTrip_29 : decode cX0_startTrip 29 = .ok (.iastore, 1) := by decide +kernel
theorem dX0_startTrip_30 : decode cX0_startTrip 30 = .ok (.aload_n 0, 1) := by decide +kernel
theorem dX0_startTrip_31 : decode cX0_startTrip 31 = .ok (.getfield 33, 3) := by decide +kernel
theorem dX0_startTrip_34 : decode cX0_startTrip 34 = .ok (.iconst 4, 1) := by decide +kernel
theorem dX0_startTrip_35 : decode cX0_startTrip 35 = .ok (.iconst 0, 1) := by decide +kernel
theorem dX0_startTrip_36 : decode cX0_startTrip 36 = .ok (.iastore, 1) := by decide +kernel
theorem dX0_startTrip_37 : decode cX0_startTrip 37 = .ok (.aload_n 0, 1) := by decide +kernel
theorem dX0_startTrip_38 : decode cX0_startTrip 38 = .ok (.getfield 33, 3) := by decide +kernel
theorem dX0_startTrip_41 : decode cX0_startTrip 41 = .ok (.iconst 5, 1) := by decide +kernel
theorem dX0_startTrip_42 : decode cX0_startTrip 42 = .ok (.iload_n 1, 1) := by decide +kernel
theorem dX0_startTrip_43 : decode cX0_startTrip 43 = .ok (.iastore, 1) := by decide +kernel
theorem dX0_startTrip_44 : decode cX0_startTrip 44 = .ok (.aload_n 0, 1) := by decide +kernel
theorem dX0_startTrip_45 : decode cX0_startTrip 45 = .ok (.getfield 33, 3) := by decide +kernel
theorem dX0_startTrip_48 : decode cX0_startTrip 48 = .ok (.bipush 6, 2) := by decide +kernel
theorem dX0_startTrip_50 : decode cX0_startTrip 50 = .ok (.iload_n 2, 1) := by decide +kernel
theorem dX0_startTrip_51 : decode cX0_startTrip 51 = .ok (.iastore, 1) := by decide +kernel
theorem dX0_startTrip_52 : decode cX0_startTrip 52 = .ok (.aload_n 0, 1) := by decide +kernel
theorem dX0_startTrip_53 : decode cX0_startTrip 53 = .ok (.iconst 1, 1) := by decide +kernel
theorem dX0_startTrip_54 : decode cX0_startTrip 54 = .ok (.putfield 36, 3) := by decide +kernel
theorem dX0_startTrip_57 : decode cX0_startTrip 57 = .ok (.return_, 1) := by decide +kernel
theorem dX0_waggonLength_0 : decode cX0_waggonLength 0 = .ok (.aload_n 0, 1) := by decide +kernel
theorem dX0_waggonLength_1 : decode cX0_waggonLength 1 = .ok (.iload_n 1, 1) := by decide +kernel
theorem dX0_waggonLength_2 : decode cX0_waggonLength 2 = .ok (.iconst 1, 1) := by decide +kernel
theorem dX0_waggonLength_3 : decode cX0_waggonLength 3 = .ok (.invokevirtual 54, 3) := by decide +kernel
theorem dX0_waggonLength_6 : decode cX0_waggonLength 6 = .ok (.aload_n 0, 1) := by decide +kernel
theorem dX0_waggonLength_7 : decode cX0_waggonLength 7 = .ok (.iload_n 1, 1) := by decide +kernel
theorem dX0_waggonLength_8 : decode cX0_waggonLength 8 = .ok (.iconst 0, 1) := by decide +kernel
theorem dX0_waggonLength_9 : decode cX0_waggonLength 9 = .ok (.invokevirtual 54, 3) := by decide +kernel
theorem dX0_waggonLength_12 : decode cX0_waggonLength 12 = .ok (.iconst 1, 1) := by decide +kernel
theorem dX0_waggonLength_13 : decode cX0_waggonLength 13 = .ok (.isub, 1) := by decide +kernel
theorem dX0_waggonLength_14 : decode cX0_waggonLength 14 = .ok (.imul, 1) := by decide +kernel
theorem dX0_waggonLength_15 : decode cX0_waggonLength 15 = .ok (.iconst 4, 1) := by decide +kernel
theorem dX0_waggonLength_16 : decode cX0_waggonLength 16 = .ok (.iadd, 1) := by decide +kernel
theorem dX0_waggonLength_17 : decode cX0_waggonLength 17 = .ok (.ireturn, 1) := by decide +kernel
theorem dX6_isPlace_0 : decode cX6_isPlace 0 = .ok (.iload_n 0, 1) := by decide +kernel
theorem dX6_isPlace_1 : decode cX6_isPlace 1 = .ok (.iconst 0, 1) := by decide +kernel
theorem dX6_isPlace_2 : decode cX6_isPlace 2 = .ok (.bipush 15, 2) := by decide +kernel
theorem dX6_isPlace_4 : decode cX6_isPlace 4 = .ok (.invokestatic 66, 3) := by decide +kernel
theorem dX6_isPlace_7 : decode cX6_isPlace 7 = .ok (.ireturn, 1) := by decide +kernel
theorem dX6_isShelf_0 : decode cX6_isShelf 0 = .ok (.iload_n 0, 1) := by decide +kernel
theorem dX6_isShelf_1 : decode cX6_isShelf 1 = .ok (.iconst 0, 1) := by decide +kernel
theorem dX6_isShelf_2 : decode cX6_isShelf 2 = .ok (.bipush 7, 2) := by decide +kernel
theorem dX6_isShelf_4 : decode cX6_isShelf 4 = .ok (.invokestatic 66, 3) := by decide +kernel
theorem dX6_isShelf_7 : decode cX6_isShelf 7 = .ok (.ireturn, 1) := by decide +kernel
theorem dX6_within_0 : decode cX6_within 0 = .ok (.iload_n 0, 1) := by decide +kernel
theorem dX6_within_1 : decode cX6_within 1 = .ok (.iload_n 1, 1) := by decide +kernel
theorem dX6_within_2 : decode cX6_within 2 = .ok (.if_icmp .lt 12, 3) := by decide +kernel
theorem dX6_within_5 : decode cX6_within 5 = .ok (.iload_n 0, 1) := by decide +kernel
theorem dX6_within_6 : decode cX6_within 6 = .ok (.iload_n 2, 1) := by decide +kernel
theorem dX6_within_7 : decode cX6_within 7 = .ok (.if_icmp .gt 7, 3) := by decide +kernel
theorem dX6_within_10 : decode cX6_within 10 = .ok (.iconst 1, 1) := by decide +kernel
theorem dX6_within_11 : decode cX6_within 11 = .ok (.goto 4, 3) := by decide +kernel
theorem dX6_within_14 : decode cX6_within 14 = .ok (.iconst 0, 1) := by decide +kernel
theorem dX6_within_15 : decode cX6_within 15 = .ok (.ireturn, 1) := by decide +kernel
