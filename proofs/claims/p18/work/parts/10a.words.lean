theorem q_66 : Cond.initialized RX6 ∈ oh_t := oh_of (i := 66) (by decide +kernel) rfl
theorem q_97 : Cond.fieldLink RX0 13 "OneHeavyLoad$Land" "counts" "[I" ∈ oh_t := oh_of (i := 97) (by decide +kernel) rfl
theorem q_101 : Cond.fieldLink RX0 18 "OneHeavyLoad$Land" "roads" "[I" ∈ oh_t := oh_of (i := 101) (by decide +kernel) rfl
theorem q_103 : Cond.fieldLink RX0 21 "OneHeavyLoad$Land" "bridges" "[I" ∈ oh_t := oh_of (i := 103) (by decide +kernel) rfl
theorem q_104 : Cond.fieldLink RX0 24 "OneHeavyLoad$Land" "waggons" "[I" ∈ oh_t := oh_of (i := 104) (by decide +kernel) rfl
theorem q_293 : Cond.methodLink RX6 66 yX6_within ∈ oh_t := oh_of (i := 293) (by decide +kernel) rfl
theorem q_294 : Cond.static yX6_within ∈ oh_t := oh_of (i := 294) (by decide +kernel) rfl
theorem q_295 : Cond.code yX6_within cX6_within 3 (some .boolean) ∈ oh_t := oh_of (i := 295) (by decide +kernel) rfl
theorem pdX6_within : yX6_within.cls ≠ "java/lang/invoke/MethodHandle" ∧ yX6_within.cls ≠ "java/lang/invoke/VarHandle" ∧ (parseMethodDescriptor yX6_within.desc).map (fun d => d.parameters.length) = some 3 := by decide +kernel
theorem dX0_hasRoom_0 : decode cX0_hasRoom 0 = .ok (.aload_n 0, 1) := by decide +kernel
theorem dX0_hasRoom_1 : decode cX0_hasRoom 1 = .ok (.getfield 13, 3) := by decide +kernel
theorem dX0_hasRoom_4 : decode cX0_hasRoom 4 = .ok (.iload_n 1, 1) := by decide +kernel
theorem dX0_hasRoom_5 : decode cX0_hasRoom 5 = .ok (.iaload, 1) := by decide +kernel
theorem dX0_hasRoom_6 : decode cX0_hasRoom 6 = .ok (.getstatic 9, 3) := by decide +kernel
theorem dX0_hasRoom_9 : decode cX0_hasRoom 9 = .ok (.iload_n 1, 1) := by decide +kernel
theorem dX0_hasRoom_10 : decode cX0_hasRoom 10 = .ok (.iaload, 1) := by decide +kernel
theorem dX0_hasRoom_11 : decode cX0_hasRoom 11 = .ok (.if_icmp .ge 7, 3) := by decide +kernel
theorem dX0_hasRoom_14 : decode cX0_hasRoom 14 = .ok (.iconst 1, 1) := by decide +kernel
theorem dX0_hasRoom_15 : decode cX0_hasRoom 15 = .ok (.goto 4, 3) := by decide +kernel
theorem dX0_hasRoom_18 : decode cX0_hasRoom 18 = .ok (.iconst 0, 1) := by decide +kernel
theorem dX0_hasRoom_19 : decode cX0_hasRoom 19 = .ok (.ireturn, 1) := by decide +kernel
theorem dX0_ofBridge_0 : decode cX0_ofBridge 0 = .ok (.aload_n 0, 1) := by decide +kernel
theorem dX0_ofBridge_1 : decode cX0_ofBridge 1 = .ok (.getfield 21, 3) := by decide +kernel
theorem dX0_ofBridge_4 : decode cX0_ofBridge 4 = .ok (.iload_n 1, 1) := by decide +kernel
theorem dX0_ofBridge_5 : decode cX0_ofBridge 5 = .ok (.bipush 10, 2) := by decide +kernel
theorem dX0_ofBridge_7 : decode cX0_ofBridge 7 = .ok (.imul, 1) := by decide +kernel
theorem dX0_ofBridge_8 : decode cX0_ofBridge 8 = .ok (.iload_n 2, 1) := by decide +kernel
theorem dX0_ofBridge_9 : decode cX0_ofBridge 9 = .ok (.iadd, 1) := by decide +kernel
theorem dX0_ofBridge_10 : decode cX0_ofBridge 10 = .ok (.iaload, 1) := by decide +kernel
theorem dX0_ofBridge_11 : decode cX0_ofBridge 11 = .ok (.ireturn, 1) := by decide +kernel
theorem dX0_ofRoad_0 : decode cX0_ofRoad 0 = .ok (.aload_n 0, 1) := by decide +kernel
theorem dX0_ofRoad_1 : decode cX0_ofRoad 1 = .ok (.getfield 18, 3) := by decide +kernel
theorem dX0_ofRoad_4 : decode cX0_ofRoad 4 = .ok (.iload_n 1, 1) := by decide +kernel
theorem dX0_ofRoad_5 : decode cX0_ofRoad 5 = .ok (.bipush 7, 2) := by decide +kernel
theorem dX0_ofRoad_7 : decode cX0_ofRoad 7 = .ok (.imul, 1) := by decide +kernel
theorem dX0_ofRoad_8 : decode cX0_ofRoad 8 = .ok (.iload_n 2, 1) := by decide +kernel
theorem dX0_ofRoad_9 : decode cX0_ofRoad 9 = .ok (.iadd, 1) := by decide +kernel
theorem dX0_ofRoad_10 : decode cX0_ofRoad 10 = .ok (.iaload, 1) := by decide +kernel
theorem dX0_ofRoad_11 : decode cX0_ofRoad 11 = .ok (.ireturn, 1) := by decide +kernel
theorem dX0_ofWaggon_0 : decode cX0_ofWaggon 0 = .ok (.aload_n 0, 1) := by decide +kernel
theorem dX0_ofWaggon_1 : decode cX0_ofWaggon 1 = .ok (.getfield 24, 3) := by decide +kernel
theorem dX0_ofWaggon_4 : decode cX0_ofWaggon 4 = .ok (.iload_n 1, 1) := by decide +kernel
theorem dX0_ofWaggon_5 : decode cX0_ofWaggon 5 = .ok (.iconst 3, 1) := by decide +kernel
theorem dX0_ofWaggon_6 : decode cX0_ofWaggon 6 = .ok (.imul, 1) := by decide +kernel
theorem dX0_ofWaggon_7 : decode cX0_ofWaggon 7 = .ok (.iload_n 2, 1) := by decide +kernel
theorem dX0_ofWaggon_8 : decode cX0_ofWaggon 8 = .ok (.iadd, 1) := by decide +kernel
theorem dX0_ofWaggon_9 : decode cX0_ofWaggon 9 = .ok (.iaload, 1) := by decide +kernel
theorem dX0_ofWaggon_10 : decode cX0_ofWaggon 10 = .ok (.ireturn, 1) := by decide +kernel
theorem dX0_setsOfParts_0 : decode cX0_setsOfParts 0 = .ok (.iconst 1, 1) := by decide +kernel
theorem dX0_setsOfParts_1 : decode cX0_setsOfParts 1 = .ok (.aload_n 0, 1) := by decide +kernel
theorem dX0_setsOfParts_2 : decode cX0_setsOfParts 2 = .ok (.getfield 13, 3) := by decide +kernel
theorem dX0_setsOfParts_5 : decode cX0_setsOfParts 5 = .ok (.iconst 3, 1) := by decide +kernel
theorem dX0_setsOfParts_6 : decode cX0_setsOfParts 6 = .ok (.iaload, 1) := by decide +kernel
theorem dX0_setsOfParts_7 : decode cX0_setsOfParts 7 = .ok (.ishl, 1) := by decide +kernel
theorem dX0_setsOfParts_8 : decode cX0_setsOfParts 8 = .ok (.ireturn, 1) := by decide +kernel
theorem dX6_cut_0 : decode cX6_cut 0 = .ok (.iload_n 1, 1) := by decide +kernel
theorem dX6_cut_1 : decode cX6_cut 1 = .ok (.ifCond .gt 7, 3) := by decide +kernel
theorem dX6_cut_4 : decode cX6_cut 4 = .ok (.iconst 0, 1) := by decide +kernel
theorem dX6_cut_5 : decode cX6_cut 5 = .ok (.goto 6, 3) := by decide +kernel
theorem dX6_cut_8 : decode cX6_cut 8 = .ok (.iload_n 0, 1) := by decide +kernel
theorem dX6_cut_9 : decode cX6_cut 9 = .ok (.iload_n 1, 1) := by decide +kernel
theorem dX6_cut_10 : decode cX6_cut 10 = .ok (.idiv, 1) := by decide +kernel
theorem dX6_cut_11 : decode cX6_cut 11 = .ok (.ireturn, 1) := by decide +kernel
theorem dX6_isPlace_0 : decode cX6_isPlace 0 = .ok (.iload_n 0, 1) := by decide +kernel
theorem dX6_isPlace_1 : decode cX6_isPlace 1 = .ok (.iconst 0, 1) := by decide +kernel
theorem dX6_isPlace_2 : decode cX6_isPlace 2 = .ok (.bipush 15, 2) := by decide +kernel
theorem dX6_isPlace_4 : decode cX6_isPlace 4 = .ok (.invokestatic 66, 3) := by decide +kernel
theorem dX6_isPlace_7 : decode cX6_isPlace 7 = .ok (.ireturn, 1) := by decide +kernel
theorem dX6_isShelf_0 : decode cX6_isShelf 0 = .ok (.iload_n 0, 1) := by decide +kernel
theorem dX6_isShelf_1 : decode cX6_isShelf 1 = .ok (.iconst 0, 1) := by decide +kernel
theorem dX6_isShelf_2 : decode cX6_isShelf 2 = .ok (.bipush 7, 2) := by decide +kernel
theorem dX6_isShelf_4 : decode cX6_isShelf 4 = .ok (.invokestatic 66, 3) := by decide +kernel
theorem dX6_isShelf_7 : decode cX6_isShelf 7 = .ok (.ireturn, 1) := by decide +kernel
theorem dX6_roundedUp_0 : decode cX6_roundedUp 0 = .ok (.iload_n 1, 1) := by decide +kernel
theorem dX6_roundedUp_1 : decode cX6_roundedUp 1 = .ok (.ifCond .gt 7, 3) := by decide +kernel
theorem dX6_roundedUp_4 : decode cX6_roundedUp 4 = .ok (.iconst 0, 1) := by decide +kernel
theorem dX6_roundedUp_5 : decode cX6_roundedUp 5 = .ok (.goto 10, 3) := by decide +kernel
theorem dX6_roundedUp_8 : decode cX6_roundedUp 8 = .ok (.iload_n 0, 1) := by decide +kernel
theorem dX6_roundedUp_9 : decode cX6_roundedUp 9 = .ok (.iload_n 1, 1) := by decide +kernel
theorem dX6_roundedUp_10 : decode cX6_roundedUp 10 = .ok (.iadd, 1) := by decide +kernel
theorem dX6_roundedUp_11 : decode cX6_roundedUp 11 = .ok (.iconst 1, 1) := by decide +kernel
theorem dX6_roundedUp_12 : decode cX6_roundedUp 12 = .ok (.isub, 1) := by decide +kernel
theorem dX6_roundedUp_13 : decode cX6_roundedUp 13 = .ok (.iload_n 1, 1) := by decide +kernel
theorem dX6_roundedUp_14 : decode cX6_roundedUp 14 = .ok (.idiv, 1) := by decide +kernel
theorem dX6_roundedUp_15 : decode cX6_roundedUp 15 = .ok (.ireturn, 1) := by decide +kernel
theorem dX6_within_0 : decode cX6_within 0 = .ok (.iload_n 0, 1) := by decide +kernel
theorem dX6_within_1 : decode cX6_within 1 = .ok (.iload_n 1, 1) := by decide +kernel
theorem dX6_within_2 : decode cX6_within 2 = .ok (.if_icmp .lt 12, 3) := by decide +kernel
theorem dX6_within_5 : decode cX6_within 5 = .ok (.iload_n 0, 1) := by decide +kernel
theorem dX6_within_6 : decode cX6_within 6 = .ok (.iload_n 2, 1) := by decide +kernel
theorem dX6_within_7 : decode cX6_within 7 = .ok (.if_icmp .gt 7, 3) := by decide +kernel
theorem dX6_within_10 : decode cX6_within 10 = .ok (.iconst 1, 1) := by decide +kernel
theorem dX6_within_11 : decode cX6_within 11 = .ok (.goto 4, 3) := by decide +kernel
theorem dX6_within_14 : decode cX6_within 14 = .ok (.iconst 0, 1) := by decide +kernel
theorem dX6_within_15 : decode cX6_within 15 = .ok (.ireturn, 1) := by decide +kernel

