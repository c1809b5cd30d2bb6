theorem q_6 : Cond.selects RX2 yX2_readStatement yX2_readStatement ∈ oh_t := oh_of (i := 6) (by decide +kernel) rfl
theorem q_7 : Cond.selects RX2 yX2_readRoad yX2_readRoad ∈ oh_t := oh_of (i := 7) (by decide +kernel) rfl
theorem q_8 : Cond.selects RX2 yX2_enter yX2_enter ∈ oh_t := oh_of (i := 8) (by decide +kernel) rfl
theorem q_9 : Cond.selects RX2 yX2_number yX2_number ∈ oh_t := oh_of (i := 9) (by decide +kernel) rfl
theorem q_10 : Cond.selects RX2 yX2_numberIfTold yX2_numberIfTold ∈ oh_t := oh_of (i := 10) (by decide +kernel) rfl
theorem q_11 : Cond.selects RX2 yX2_readBridge yX2_readBridge ∈ oh_t := oh_of (i := 11) (by decide +kernel) rfl
theorem q_12 : Cond.selects RX2 yX2_readWaggon yX2_readWaggon ∈ oh_t := oh_of (i := 12) (by decide +kernel) rfl
theorem q_13 : Cond.selects RX2 yX2_readPart yX2_readPart ∈ oh_t := oh_of (i := 13) (by decide +kernel) rfl
theorem q_14 : Cond.selects RX2 yX2_readSetting yX2_readSetting ∈ oh_t := oh_of (i := 14) (by decide +kernel) rfl
theorem q_72 : Cond.initialized RX2 ∈ oh_t := oh_of (i := 72) (by decide +kernel) rfl
theorem q_98 : Cond.fieldLink RX2 29 "OneHeavyLoad$Land" "counts" "[I" ∈ oh_t := oh_of (i := 98) (by decide +kernel) rfl
theorem q_107 : Cond.fieldLink RX2 40 "OneHeavyLoad$Land" "settings" "[I" ∈ oh_t := oh_of (i := 107) (by decide +kernel) rfl
theorem q_221 : Cond.fieldLink RX6 181 "OneHeavyLoad$Tape" "fault" "I" ∈ oh_t := oh_of (i := 221) (by decide +kernel) rfl
theorem q_245 : Cond.fieldLink RX2 9 "OneHeavyLoad$Reader" "tape" "LOneHeavyLoad$Tape;" ∈ oh_t := oh_of (i := 245) (by decide +kernel) rfl
theorem q_246 : Cond.fieldLink RX2 15 "OneHeavyLoad$Reader" "land" "LOneHeavyLoad$Land;" ∈ oh_t := oh_of (i := 246) (by decide +kernel) rfl
theorem q_247 : Cond.fieldLink RX2 23 "OneHeavyLoad$Reader" "countsBefore" "[I" ∈ oh_t := oh_of (i := 247) (by decide +kernel) rfl
theorem q_248 : Cond.fieldLink RX2 26 "OneHeavyLoad$Reader" "settingsBefore" "[I" ∈ oh_t := oh_of (i := 248) (by decide +kernel) rfl
theorem q_264 : Cond.fieldLink RX6 51 "OneHeavyLoad" "reader" "LOneHeavyLoad$Reader;" ∈ oh_t := oh_of (i := 264) (by decide +kernel) rfl
theorem q_487 : Cond.methodLink RX6 174 yX4_append ∈ oh_t := oh_of (i := 487) (by decide +kernel) rfl
theorem q_488 : Cond.instanceMethod yX4_append ∈ oh_t := oh_of (i := 488) (by decide +kernel) rfl
theorem q_489 : Cond.selects RX4 yX4_append yX4_append ∈ oh_t := oh_of (i := 489) (by decide +kernel) rfl
theorem q_490 : Cond.code yX4_append cX4_append 4 none ∈ oh_t := oh_of (i := 490) (by decide +kernel) rfl
theorem q_499 : Cond.methodLink RX6 177 yX2_read ∈ oh_t := oh_of (i := 499) (by decide +kernel) rfl
theorem q_500 : Cond.instanceMethod yX2_read ∈ oh_t := oh_of (i := 500) (by decide +kernel) rfl
theorem q_501 : Cond.selects RX2 yX2_read yX2_read ∈ oh_t := oh_of (i := 501) (by decide +kernel) rfl
theorem q_502 : Cond.code yX2_read cX2_read 2 (some .int) ∈ oh_t := oh_of (i := 502) (by decide +kernel) rfl
theorem q_503 : Cond.methodLink RX2 34 arraycopyName ∈ oh_t := oh_of (i := 503) (by decide +kernel) rfl
theorem q_504 : Cond.methodLink RX2 43 yX4_rewind ∈ oh_t := oh_of (i := 504) (by decide +kernel) rfl
theorem q_505 : Cond.instanceMethod yX4_rewind ∈ oh_t := oh_of (i := 505) (by decide +kernel) rfl
theorem q_506 : Cond.selects RX4 yX4_rewind yX4_rewind ∈ oh_t := oh_of (i := 506) (by decide +kernel) rfl
theorem q_507 : Cond.code yX4_rewind cX4_rewind 1 none ∈ oh_t := oh_of (i := 507) (by decide +kernel) rfl
theorem q_512 : Cond.methodLink RX2 48 yX2_readStatement ∈ oh_t := oh_of (i := 512) (by decide +kernel) rfl
theorem q_514 : Cond.instanceMethod yX2_readStatement ∈ oh_t := oh_of (i := 514) (by decide +kernel) rfl
theorem q_515 : Cond.code yX2_readStatement cX2_readStatement 1 none ∈ oh_t := oh_of (i := 515) (by decide +kernel) rfl
theorem q_517 : Cond.methodLink RX2 63 yX4_isWord ∈ oh_t := oh_of (i := 517) (by decide +kernel) rfl
theorem q_569 : Cond.methodLink RX2 67 yX2_readRoad ∈ oh_t := oh_of (i := 569) (by decide +kernel) rfl
theorem q_571 : Cond.instanceMethod yX2_readRoad ∈ oh_t := oh_of (i := 571) (by decide +kernel) rfl
theorem q_572 : Cond.code yX2_readRoad cX2_readRoad 7 none ∈ oh_t := oh_of (i := 572) (by decide +kernel) rfl
theorem q_573 : Cond.methodLink RX2 106 yX2_enter ∈ oh_t := oh_of (i := 573) (by decide +kernel) rfl
theorem q_575 : Cond.instanceMethod yX2_enter ∈ oh_t := oh_of (i := 575) (by decide +kernel) rfl
theorem q_576 : Cond.code yX2_enter cX2_enter 2 none ∈ oh_t := oh_of (i := 576) (by decide +kernel) rfl
theorem q_577 : Cond.methodLink RX2 99 yX0_hasRoom ∈ oh_t := oh_of (i := 577) (by decide +kernel) rfl
theorem q_578 : Cond.methodLink RX2 103 yX4_advance ∈ oh_t := oh_of (i := 578) (by decide +kernel) rfl
theorem q_579 : Cond.methodLink RX2 96 yX4_fail ∈ oh_t := oh_of (i := 579) (by decide +kernel) rfl
theorem q_583 : Cond.methodLink RX2 109 yX4_takeNumber ∈ oh_t := oh_of (i := 583) (by decide +kernel) rfl
theorem q_584 : Cond.instanceMethod yX4_takeNumber ∈ oh_t := oh_of (i := 584) (by decide +kernel) rfl
theorem q_585 : Cond.selects RX4 yX4_takeNumber yX4_takeNumber ∈ oh_t := oh_of (i := 585) (by decide +kernel) rfl
theorem q_586 : Cond.code yX4_takeNumber cX4_takeNumber 4 (some .int) ∈ oh_t := oh_of (i := 586) (by decide +kernel) rfl
theorem q_597 : Cond.methodLink RX2 113 yX4_numberHere ∈ oh_t := oh_of (i := 597) (by decide +kernel) rfl
theorem q_599 : Cond.methodLink RX2 119 yX2_number ∈ oh_t := oh_of (i := 599) (by decide +kernel) rfl
theorem q_601 : Cond.instanceMethod yX2_number ∈ oh_t := oh_of (i := 601) (by decide +kernel) rfl
theorem q_602 : Cond.code yX2_number cX2_number 4 (some .int) ∈ oh_t := oh_of (i := 602) (by decide +kernel) rfl
theorem q_603 : Cond.methodLink RX2 169 yX4_takeWord ∈ oh_t := oh_of (i := 603) (by decide +kernel) rfl
theorem q_604 : Cond.instanceMethod yX4_takeWord ∈ oh_t := oh_of (i := 604) (by decide +kernel) rfl
theorem q_605 : Cond.selects RX4 yX4_takeWord yX4_takeWord ∈ oh_t := oh_of (i := 605) (by decide +kernel) rfl
theorem q_606 : Cond.code yX4_takeWord cX4_takeWord 2 none ∈ oh_t := oh_of (i := 606) (by decide +kernel) rfl
theorem q_609 : Cond.methodLink RX2 125 yX2_numberIfTold ∈ oh_t := oh_of (i := 609) (by decide +kernel) rfl
theorem q_611 : Cond.instanceMethod yX2_numberIfTold ∈ oh_t := oh_of (i := 611) (by decide +kernel) rfl
theorem q_612 : Cond.code yX2_numberIfTold cX2_numberIfTold 5 (some .int) ∈ oh_t := oh_of (i := 612) (by decide +kernel) rfl
theorem q_613 : Cond.methodLink RX2 87 yX4_takeWordIfThere ∈ oh_t := oh_of (i := 613) (by decide +kernel) rfl
theorem q_614 : Cond.instanceMethod yX4_takeWordIfThere ∈ oh_t := oh_of (i := 614) (by decide +kernel) rfl
theorem q_615 : Cond.selects RX4 yX4_takeWordIfThere yX4_takeWordIfThere ∈ oh_t := oh_of (i := 615) (by decide +kernel) rfl
theorem q_616 : Cond.code yX4_takeWordIfThere cX4_takeWordIfThere 3 (some .boolean) ∈ oh_t := oh_of (i := 616) (by decide +kernel) rfl
theorem q_619 : Cond.methodLink RX2 51 yX4_isSound ∈ oh_t := oh_of (i := 619) (by decide +kernel) rfl
theorem q_620 : Cond.methodLink RX2 133 yX0_addRoad ∈ oh_t := oh_of (i := 620) (by decide +kernel) rfl
theorem q_622 : Cond.methodLink RX2 72 yX2_readBridge ∈ oh_t := oh_of (i := 622) (by decide +kernel) rfl
theorem q_624 : Cond.instanceMethod yX2_readBridge ∈ oh_t := oh_of (i := 624) (by decide +kernel) rfl
theorem q_625 : Cond.code yX2_readBridge cX2_readBridge 8 none ∈ oh_t := oh_of (i := 625) (by decide +kernel) rfl
theorem q_631 : Cond.methodLink RX2 147 yX0_addBridge ∈ oh_t := oh_of (i := 631) (by decide +kernel) rfl
theorem q_632 : Cond.methodLink RX2 151 yX0_putProp ∈ oh_t := oh_of (i := 632) (by decide +kernel) rfl
theorem q_634 : Cond.methodLink RX2 77 yX2_readWaggon ∈ oh_t := oh_of (i := 634) (by decide +kernel) rfl
theorem q_636 : Cond.instanceMethod yX2_readWaggon ∈ oh_t := oh_of (i := 636) (by decide +kernel) rfl
theorem q_637 : Cond.code yX2_readWaggon cX2_readWaggon 4 none ∈ oh_t := oh_of (i := 637) (by decide +kernel) rfl
theorem q_640 : Cond.methodLink RX2 159 yX0_addWaggon ∈ oh_t := oh_of (i := 640) (by decide +kernel) rfl
theorem q_642 : Cond.methodLink RX2 82 yX2_readPart ∈ oh_t := oh_of (i := 642) (by decide +kernel) rfl
theorem q_644 : Cond.instanceMethod yX2_readPart ∈ oh_t := oh_of (i := 644) (by decide +kernel) rfl
theorem q_645 : Cond.code yX2_readPart cX2_readPart 3 none ∈ oh_t := oh_of (i := 645) (by decide +kernel) rfl
theorem q_646 : Cond.methodLink RX2 163 yX0_addPart ∈ oh_t := oh_of (i := 646) (by decide +kernel) rfl
theorem q_648 : Cond.methodLink RX2 90 yX2_readSetting ∈ oh_t := oh_of (i := 648) (by decide +kernel) rfl
theorem q_650 : Cond.instanceMethod yX2_readSetting ∈ oh_t := oh_of (i := 650) (by decide +kernel) rfl
theorem q_651 : Cond.code yX2_readSetting cX2_readSetting 3 none ∈ oh_t := oh_of (i := 651) (by decide +kernel) rfl
theorem q_654 : Cond.methodLink RX2 55 yX4_isEnd ∈ oh_t := oh_of (i := 654) (by decide +kernel) rfl
theorem q_655 : Cond.instanceMethod yX4_isEnd ∈ oh_t := oh_of (i := 655) (by decide +kernel) rfl
theorem q_656 : Cond.selects RX4 yX4_isEnd yX4_isEnd ∈ oh_t := oh_of (i := 656) (by decide +kernel) rfl
theorem q_657 : Cond.code yX4_isEnd cX4_isEnd 1 (some .boolean) ∈ oh_t := oh_of (i := 657) (by decide +kernel) rfl
theorem q_658 : Cond.methodLink RX2 58 yX4_takeSign ∈ oh_t := oh_of (i := 658) (by decide +kernel) rfl
theorem q_659 : Cond.instanceMethod yX4_takeSign ∈ oh_t := oh_of (i := 659) (by decide +kernel) rfl
theorem q_660 : Cond.selects RX4 yX4_takeSign yX4_takeSign ∈ oh_t := oh_of (i := 660) (by decide +kernel) rfl
theorem q_661 : Cond.code yX4_takeSign cX4_takeSign 1 none ∈ oh_t := oh_of (i := 661) (by decide +kernel) rfl
theorem pdVX2_enter : yX2_enter.cls = RX2 ∧ yX2_enter.cls ≠ "java/lang/invoke/MethodHandle" ∧ yX2_enter.cls ≠ "java/lang/invoke/VarHandle" ∧ (parseMethodDescriptor yX2_enter.desc).map (fun d => d.parameters.length) = some 1 := by decide +kernel
theorem pdVX2_number : yX2_number.cls = RX2 ∧ yX2_number.cls ≠ "java/lang/invoke/MethodHandle" ∧ yX2_number.cls ≠ "java/lang/invoke/VarHandle" ∧ (parseMethodDescriptor yX2_number.desc).map (fun d => d.parameters.length) = some 3 := by decide +kernel
theorem pdVX2_numberIfTold : yX2_numberIfTold.cls = RX2 ∧ yX2_numberIfTold.cls ≠ "java/lang/invoke/MethodHandle" ∧ yX2_numberIfTold.cls ≠ "java/lang/invoke/VarHandle" ∧ (parseMethodDescriptor yX2_numberIfTold.desc).map (fun d => d.parameters.length) = some 4 := by decide +kernel
theorem pdVX2_read : yX2_read.cls = RX2 ∧ yX2_read.cls ≠ "java/lang/invoke/MethodHandle" ∧ yX2_read.cls ≠ "java/lang/invoke/VarHandle" ∧ (parseMethodDescriptor yX2_read.desc).map (fun d => d.parameters.length) = some 0 := by decide +kernel
theorem pdVX2_readBridge : yX2_readBridge.cls = RX2 ∧ yX2_readBridge.cls ≠ "java/lang/invoke/MethodHandle" ∧ yX2_readBridge.cls ≠ "java/lang/invoke/VarHandle" ∧ (parseMethodDescriptor yX2_readBridge.desc).map (fun d => d.parameters.length) = some 0 := by decide +kernel
theorem pdVX2_readPart : yX2_readPart.cls = RX2 ∧ yX2_readPart.cls ≠ "java/lang/invoke/MethodHandle" ∧ yX2_readPart.cls ≠ "java/lang/invoke/VarHandle" ∧ (parseMethodDescriptor yX2_readPart.desc).map (fun d => d.parameters.length) = some 0 := by decide +kernel
theorem pdVX2_readRoad : yX2_readRoad.cls = RX2 ∧ yX2_readRoad.cls ≠ "java/lang/invoke/MethodHandle" ∧ yX2_readRoad.cls ≠ "java/lang/invoke/VarHandle" ∧ (parseMethodDescriptor yX2_readRoad.desc).map (fun d => d.parameters.length) = some 0 := by decide +kernel
theorem pdVX2_readSetting : yX2_readSetting.cls = RX2 ∧ yX2_readSetting.cls ≠ "java/lang/invoke/MethodHandle" ∧ yX2_readSetting.cls ≠ "java/lang/invoke/VarHandle" ∧ (parseMethodDescriptor yX2_readSetting.desc).map (fun d => d.parameters.length) = some 1 := by decide +kernel
theorem pdVX2_readStatement : yX2_readStatement.cls = RX2 ∧ yX2_readStatement.cls ≠ "java/lang/invoke/MethodHandle" ∧ yX2_readStatement.cls ≠ "java/lang/invoke/VarHandle" ∧ (parseMethodDescriptor yX2_readStatement.desc).map (fun d => d.parameters.length) = some 0 := by decide +kernel
theorem pdVX2_readWaggon : yX2_readWaggon.cls = RX2 ∧ yX2_readWaggon.cls ≠ "java/lang/invoke/MethodHandle" ∧ yX2_readWaggon.cls ≠ "java/lang/invoke/VarHandle" ∧ (parseMethodDescriptor yX2_readWaggon.desc).map (fun d => d.parameters.length) = some 0 := by decide +kernel
theorem pdVX4_append : yX4_append.cls = RX4 ∧ yX4_append.cls ≠ "java/lang/invoke/MethodHandle" ∧ yX4_append.cls ≠ "java/lang/invoke/VarHandle" ∧ (parseMethodDescriptor yX4_append.desc).map (fun d => d.parameters.length) = some 2 := by decide +kernel
theorem pdVX4_isEnd : yX4_isEnd.cls = RX4 ∧ yX4_isEnd.cls ≠ "java/lang/invoke/MethodHandle" ∧ yX4_isEnd.cls ≠ "java/lang/invoke/VarHandle" ∧ (parseMethodDescriptor yX4_isEnd.desc).map (fun d => d.parameters.length) = some 0 := by decide +kernel
theorem pdVX4_rewind : yX4_rewind.cls = RX4 ∧ yX4_rewind.cls ≠ "java/lang/invoke/MethodHandle" ∧ yX4_rewind.cls ≠ "java/lang/invoke/VarHandle" ∧ (parseMethodDescriptor yX4_rewind.desc).map (fun d => d.parameters.length) = some 0 := by decide +kernel
theorem pdVX4_takeNumber : yX4_takeNumber.cls = RX4 ∧ yX4_takeNumber.cls ≠ "java/lang/invoke/MethodHandle" ∧ yX4_takeNumber.cls ≠ "java/lang/invoke/VarHandle" ∧ (parseMethodDescriptor yX4_takeNumber.desc).map (fun d => d.parameters.length) = some 2 := by decide +kernel
theorem pdVX4_takeSign : yX4_takeSign.cls = RX4 ∧ yX4_takeSign.cls ≠ "java/lang/invoke/MethodHandle" ∧ yX4_takeSign.cls ≠ "java/lang/invoke/VarHandle" ∧ (parseMethodDescriptor yX4_takeSign.desc).map (fun d => d.parameters.length) = some 0 := by decide +kernel
theorem pdVX4_takeWord : yX4_takeWord.cls = RX4 ∧ yX4_takeWord.cls ≠ "java/lang/invoke/MethodHandle" ∧ yX4_takeWord.cls ≠ "java/lang/invoke/VarHandle" ∧ (parseMethodDescriptor yX4_takeWord.desc).map (fun d => d.parameters.length) = some 1 := by decide +kernel
theorem pdVX4_takeWordIfThere : yX4_takeWordIfThere.cls = RX4 ∧ yX4_takeWordIfThere.cls ≠ "java/lang/invoke/MethodHandle" ∧ yX4_takeWordIfThere.cls ≠ "java/lang/invoke/VarHandle" ∧ (parseMethodDescriptor yX4_takeWordIfThere.desc).map (fun d => d.parameters.length) = some 1 := by decide +kernel
theorem dX2_enter_0 : decode cX2_enter 0 = .ok (.aload_n 0, 1) := by decide +kernel
theorem dX2_enter_1 : decode cX2_enter 1 = .ok (.getfield 15, 3) := by decide +kernel
theorem dX2_enter_4 : decode cX2_enter 4 = .ok (.iload_n 1, 1) := by decide +kernel
theorem dX2_enter_5 : decode cX2_enter 5 = .ok (.invokevirtual 99, 3) := by decide +kernel
theorem dX2_enter_8 : decode cX2_enter 8 = .ok (.ifCond .eq 13, 3) := by decide +kernel
theorem dX2_enter_11 : decode cX2_enter 11 = .ok (.aload_n 0, 1) := by decide +kernel
theorem dX2_enter_12 : decode cX2_enter 12 = .ok (.getfield 9, 3) := by decide +kernel
theorem dX2_enter_15 : decode cX2_enter 15 = .ok (.invokevirtual 103, 3) := by decide +kernel
theorem dX2_enter_18 : decode cX2_enter 18 = .ok (.goto 10, 3) := by decide +kernel
theorem dX2_enter_21 : decode cX2_enter 21 = .ok (.aload_n 0, 1) := by decide +kernel
theorem dX2_enter_22 : decode cX2_enter 22 = .ok (.getfield 9, 3) := by decide +kernel
theorem dX2_enter_25 : decode cX2_enter 25 = .ok (.invokevirtual 96, 3) := by decide +kernel
theorem dX2_enter_28 : decode cX2_enter 28 = .ok (.return_, 1) := by decide +kernel
theorem dX2_number_0 : decode cX2_number 0 = .ok (.aload_n 0, 1) := by decide +kernel
theorem dX2_number_1 : decode cX2_number 1 = .ok (.getfield 9, 3) := by decide +kernel
theorem dX2_number_4 : decode cX2_number 4 = .ok (.aload_n 1, 1) := by decide +kernel
theorem dX2_number_5 : decode cX2_number 5 = .ok (.invokevirtual 169, 3) := by decide +kernel
theorem dX2_number_8 : decode cX2_number 8 = .ok (.aload_n 0, 1) := by decide +kernel
theorem dX2_number_9 : decode cX2_number 9 = .ok (.getfield 9, 3) := by decide +kernel
theorem dX2_number_12 : decode cX2_number 12 = .ok (.iload_n 2, 1) := by decide +kernel
theorem dX2_number_13 : decode cX2_number 13 = .ok (.iload_n 3, 1) := by decide +kernel
theorem dX2_number_14 : decode cX2_number 14 = .ok (.invokevirtual 109, 3) := by decide +kernel
theorem dX2_number_17 : decode cX2_number 17 = .ok (.ireturn, 1) := by decide +kernel
theorem dX2_numberIfTold_0 : decode cX2_numberIfTold 0 = .ok (.aload_n 0, 1) := by decide +kernel
theorem dX2_numberIfTold_1 : decode cX2_numberIfTold 1 = .ok (.getfield 9, 3) := by decide +kernel
theorem dX2_numberIfTold_4 : decode cX2_numberIfTold 4 = .ok (.aload_n 1, 1) := by decide +kernel
theorem dX2_numberIfTold_5 : decode cX2_numberIfTold 5 = .ok (.invokevirtual 87, 3) := by decide +kernel
theorem dX2_numberIfTold_8 : decode cX2_numberIfTold 8 = .ok (.ifCond .eq 15, 3) := by decide +kernel
theorem dX2_numberIfTold_11 : decode cX2_numberIfTold 11 = .ok (.aload_n 0, 1) := by decide +kernel
theorem dX2_numberIfTold_12 : decode cX2_numberIfTold 12 = .ok (.getfield 9, 3) := by decide +kernel
theorem dX2_numberIfTold_15 : decode cX2_numberIfTold 15 = .ok (.iload_n 2, 1) := by decide +kernel
theorem dX2_numberIfTold_16 : decode cX2_numberIfTold 16 = .ok (.iload_n 3, 1) := by decide +kernel
theorem dX2_numberIfTold_17 : decode cX2_numberIfTold 17 = .ok (.invokevirtual 109, 3) := by decide +kernel
theorem dX2_numberIfTold_20 : decode cX2_numberIfTold 20 = .ok (.goto 5, 3) := by decide +kernel
theorem dX2_numberIfTold_23 : decode cX2_numberIfTold 23 = .ok (.iload 4, 2) := by decide +kernel
theorem dX2_numberIfTold_25 : decode cX2_numberIfTold 25 = .ok (.ireturn, 1) := by decide +kernel
theorem dX2_read_0 : decode cX2_read 0 = .ok (.aload_n 0, 1) := by decide +kernel
theorem dX2_read_1 : decode cX2_read 1 = .ok (.getfield 15, 3) := by decide +kernel
theorem dX2_read_4 : decode cX2_read 4 = .ok (.getfield 29, 3) := by decide +kernel
theorem dX2_read_7 : decode cX2_read 7 = .ok (.iconst 0, 1) := by decide +kernel
theorem dX2_read_8 : decode cX2_read 8 = .ok (.aload_n 0, 1) := by decide +kernel
theorem dX2_read_9 : decode cX2_read 9 = .ok (.getfield 23, 3) := by decide +kernel
theorem dX2_read_12 : decode cX2_read 12 = .ok (.iconst 0, 1) := by decide +kernel
theorem dX2_read_13 : decode cX2_read 13 = .ok (.aload_n 0, 1) := by decide +kernel
theorem dX2_read_14 : decode cX2_read 14 = .ok (.getfield 23, 3) := by decide +kernel
theorem dX2_read_17 : decode cX2_read 17 = .ok (.arraylength, 1) := by decide +kernel
theorem dX2_read_18 : decode cX2_read 18 = .ok (.invokestatic 34, 3) := by decide +kernel
theorem dX2_read_21 : decode cX2_read 21 = .ok (.aload_n 0, 1) := by decide +kernel
theorem dX2_read_22 : decode cX2_read 22 = .ok (.getfield 15, 3) := by decide +kernel
theorem dX2_read_25 : decode cX2_read 25 = .ok (.getfield 40, 3) := by decide +kernel
theorem dX2_read_28 : decode cX2_read 28 = .ok (.iconst 0, 1) := by decide +kernel
theorem dX2_read_29 : decode cX2_read 29 = .ok (.aload_n 0, 1) := by decide +kernel
theorem dX2_read_30 : decode cX2_read 30 = .ok (.getfield 26, 3) := by decide +kernel
theorem dX2_read_33 : decode cX2_read 33 = .ok (.iconst 0, 1) := by decide +kernel
theorem dX2_read_34 : decode cX2_read 34 = .ok (.aload_n 0, 1) := by decide +kernel
theorem dX2_read_35 : decode cX2_read 35 = .ok (.getfield 26, 3) := by decide +kernel
theorem dX2_read_38 : decode cX2_read 38 = .ok (.arraylength, 1) := by decide +kernel
theorem dX2_read_39 : decode cX2_read 39 = .ok (.invokestatic 34, 3) := by decide +kernel
theorem dX2_read_42 : decode cX2_read 42 = .ok (.aload_n 0, 1) := by decide +kernel
theorem dX2_read_43 : decode cX2_read 43 = .ok (.getfield 9, 3) := by decide +kernel
theorem dX2_read_46 : decode cX2_read 46 = .ok (.invokevirtual 43, 3) := by decide +kernel
theorem dX2_read_49 : decode cX2_read 49 = .ok (.aload_n 0, 1) := by decide +kernel
theorem dX2_read_50 : decode cX2_read 50 = .ok (.invokevirtual 48, 3) := by decide +kernel
theorem dX2_read_53 : decode cX2_read 53 = .ok (.iconst 1, 1) := by decide +kernel
theorem dX2_read_54 : decode cX2_read 54 = .ok (.istore_n 1, 1) := by decide +kernel
theorem dX2_read_55 : decode cX2_read 55 = .ok (.aload_n 0, 1) := by decide +kernel
theorem dX2_read_56 : decode cX2_read 56 = .ok (.getfield 9, 3) := by decide +kernel
theorem dX2_read_59 : decode cX2_read 59 = .ok (.invokevirtual 51, 3) := by decide +kernel
theorem dX2_read_62 : decode cX2_read 62 = .ok (.ifCond .eq 37, 3) := by decide +kernel
theorem dX2_read_65 : decode cX2_read 65 = .ok (.aload_n 0, 1) := by decide +kernel
theorem dX2_read_66 : decode cX2_read 66 = .ok (.getfield 9, 3) := by decide +kernel
theorem dX2_read_69 : decode cX2_read 69 = .ok (.invokevirtual 55, 3) := by decide +kernel
theorem dX2_read_72 : decode cX2_read 72 = .ok (.ifCond .ne 27, 3) := by decide +kernel
theorem dX2_read_75 : decode cX2_read 75 = .ok (.iload_n 1, 1) := by decide +kernel
theorem dX2_read_76 : decode cX2_read 76 = .ok (.sipush 250, 3) := by decide +kernel
theorem dX2_read_79 : decode cX2_read 79 = .ok (.if_icmp .ge 20, 3) := by decide +kernel
theorem dX2_read_82 : decode cX2_read 82 = .ok (.aload_n 0, 1) := by decide +kernel
theorem dX2_read_83 : decode cX2_read 83 = .ok (.getfield 9, 3) := by decide +kernel
theorem dX2_read_86 : decode cX2_read 86 = .ok (.invokevirtual 58, 3) := by decide +kernel
theorem dX2_read_89 : decode cX2_read 89 = .ok (.aload_n 0, 1) := by decide +kernel
theorem dX2_read_90 : decode cX2_read 90 = .ok (.invokevirtual 48, 3) := by decide +kernel
theorem dX2_read_93 : decode cX2_read 93 = .ok (.iinc 1 1, 3) := by decide +kernel
theorem dX2_read_96 : decode cX2_read 96 = .ok (.goto (-41), 3) := by decide +kernel
theorem dX2_read_99 : decode cX2_read 99 = .ok (.aload_n 0, 1) := by decide +kernel
theorem dX2_read_100 : decode cX2_read 100 = .ok (.getfield 9, 3) := by decide +kernel
theorem dX2_read_103 : decode cX2_read 103 = .ok (.invokevirtual 51, 3) := by decide +kernel
theorem dX2_read_106 : decode cX2_read 106 = .ok (.ifCond .ne 45, 3) := by decide +kernel
theorem dX2_read_109 : decode cX2_read 109 = .ok (.aload_n 0, 1) := by decide +kernel
theorem dX2_read_110 : decode cX2_read 110 = .ok (.getfield 23, 3) := by decide +kernel
theorem dX2_read_113 : decode cX2_read 113 = .ok (.iconst 0, 1) := by decide +kernel
theorem dX2_read_114 : decode cX2_read 114 = .ok (.aload_n 0, 1) := by decide +kernel
theorem dX2_read_115 : decode cX2_read 115 = .ok (.getfield 15, 3) := by decide +kernel
theorem dX2_read_118 : decode cX2_read 118 = .ok (.getfield 29, 3) := by decide +kernel
theorem dX2_read_121 : decode cX2_read 121 = .ok (.iconst 0, 1) := by decide +kernel
theorem dX2_read_122 : decode cX2_read 122 = .ok (.aload_n 0, 1) := by decide +kernel
theorem dX2_read_123 : decode cX2_read 123 = .ok (.getfield 23, 3) := by decide +kernel
theorem dX2_read_126 : decode cX2_read 126 = .ok (.arraylength, 1) := by decide +kernel
theorem dX2_read_127 : decode cX2_read 127 = .ok (.invokestatic 34, 3) := by decide +kernel
theorem dX2_read_130 : decode cX2_read 130 = .ok (.aload_n 0, 1) := by decide +kernel
theorem dX2_read_131 : decode cX2_read 131 = .ok (.getfield 26, 3) := by decide +kernel
theorem dX2_read_134 : decode cX2_read 134 = .ok (.iconst 0, 1) := by decide +kernel
theorem dX2_read_135 : decode cX2_read 135 = .ok (.aload_n 0, 1) := by decide +kernel
theorem dX2_read_136 : decode cX2_read 136 = .ok (.getfield 15, 3) := by decide +kernel
theorem dX2_read_139 : decode cX2_read 139 = .ok (.getfield 40, 3) := by decide +kernel
theorem dX2_read_142 : decode cX2_read 142 = .ok (.iconst 0, 1) := by decide +kernel
theorem dX2_read_143 : decode cX2_read 143 = .ok (.aload_n 0, 1) := by decide +kernel
theorem dX2_read_144 : decode cX2_read 144 = .ok (.getfield 26, 3) := by decide +kernel
theorem dX2_read_147 : decode cX2_read 147 = .ok (.arraylength, 1) := by decide +kernel
theorem dX2_read_148 : decode cX2_read 148 = .ok (.invokestatic 34, 3) := by decide +kernel
theorem dX2_read_151 : decode cX2_read 151 = .ok (.iload_n 1, 1) := by decide +kernel
theorem dX2_read_152 : decode cX2_read 152 = .ok (.ireturn, 1) := by decide +kernel
theorem dX2_readBridge_0 : decode cX2_readBridge 0 = .ok (.aload_n 0, 1) := by decide +kernel
theorem dX2_readBridge_1 : decode cX2_readBridge 1 = .ok (.iconst 1, 1) := by decide +kernel
theorem dX2_readBridge_2 : decode cX2_readBridge 2 = .ok (.invokevirtual 106, 3) := by decide +kernel
theorem dX2_readBridge_5 : decode cX2_readBridge 5 = .ok (.aload_n 0, 1) := by decide +kernel
theorem dX2_readBridge_6 : decode cX2_readBridge 6 = .ok (.getfield 9, 3) := by decide +kernel
theorem dX2_readBridge_9 : decode cX2_readBridge 9 = .ok (.iconst 0, 1) := by decide +kernel
theorem dX2_readBridge_10 : decode cX2_readBridge 10 = .ok (.aload_n 0, 1) := by decide +kernel
theorem dX2_readBridge_11 : decode cX2_readBridge 11 = .ok (.getfield 15, 3) := by decide +kernel
theorem dX2_readBridge_14 : decode cX2_readBridge 14 = .ok (.getfield 29, 3) := by decide +kernel
theorem dX2_readBridge_17 : decode cX2_readBridge 17 = .ok (.iconst 0, 1) := by decide +kernel
theorem dX2_readBridge_18 : decode cX2_readBridge 18 = .ok (.iaload, 1) := by decide +kernel
theorem dX2_readBridge_19 : decode cX2_readBridge 19 = .ok (.iconst 1, 1) := by decide +kernel
theorem dX2_readBridge_20 : decode cX2_readBridge 20 = .ok (.isub, 1) := by decide +kernel
theorem dX2_readBridge_21 : decode cX2_readBridge 21 = .ok (.invokevirtual 109, 3) := by decide +kernel
theorem dX2_readBridge_24 : decode cX2_readBridge 24 = .ok (.istore_n 1, 1) := by decide +kernel
theorem dX2_readBridge_25 : decode cX2_readBridge 25 = .ok (.aload_n 0, 1) := by decide +kernel
theorem dX2_readBridge_26 : decode cX2_readBridge 26 = .ok (.ldc 137, 2) := by decide +kernel
theorem dX2_readBridge_28 : decode cX2_readBridge 28 = .ok (.iconst 0, 1) := by decide +kernel
theorem dX2_readBridge_29 : decode cX2_readBridge 29 = .ok (.iconst 5, 1) := by decide +kernel
theorem dX2_readBridge_30 : decode cX2_readBridge 30 = .ok (.invokevirtual 119, 3) := by decide +kernel
theorem dX2_readBridge_33 : decode cX2_readBridge 33 = .ok (.istore_n 2, 1) := by decide +kernel
theorem dX2_readBridge_34 : decode cX2_readBridge 34 = .ok (.aload_n 0, 1) := by decide +kernel
theorem dX2_readBridge_35 : decode cX2_readBridge 35 = .ok (.ldc 139, 2) := by decide +kernel
theorem dX2_readBridge_37 : decode cX2_readBridge 37 = .ok (.iconst 0, 1) := by decide +kernel
theorem dX2_readBridge_38 : decode cX2_readBridge 38 = .ok (.bipush 60, 2) := by decide +kernel
theorem dX2_readBridge_40 : decode cX2_readBridge 40 = .ok (.invokevirtual 119, 3) := by decide +kernel
theorem dX2_readBridge_43 : decode cX2_readBridge 43 = .ok (.istore_n 3, 1) := by decide +kernel
theorem dX2_readBridge_44 : decode cX2_readBridge 44 = .ok (.aload_n 0, 1) := by decide +kernel
theorem dX2_readBridge_45 : decode cX2_readBridge 45 = .ok (.ldc 141, 2) := by decide +kernel
theorem dX2_readBridge_47 : decode cX2_readBridge 47 = .ok (.iconst 1, 1) := by decide +kernel
theorem dX2_readBridge_48 : decode cX2_readBridge 48 = .ok (.bipush 99, 2) := by decide +kernel
theorem dX2_readBridge_50 : decode cX2_readBridge 50 = .ok (.invokevirtual 119, 3) := by decide +kernel
theorem dX2_readBridge_53 : decode cX2_readBridge 53 = .ok (.istore 4, 2) := by decide +kernel
theorem dX2_readBridge_55 : decode cX2_readBridge 55 = .ok (.aload_n 0, 1) := by decide +kernel
theorem dX2_readBridge_56 : decode cX2_readBridge 56 = .ok (.ldc 143, 2) := by decide +kernel
theorem dX2_readBridge_58 : decode cX2_readBridge 58 = .ok (.iconst 1, 1) := by decide +kernel
theorem dX2_readBridge_59 : decode cX2_readBridge 59 = .ok (.sipush 999, 3) := by decide +kernel
theorem dX2_readBridge_62 : decode cX2_readBridge 62 = .ok (.invokevirtual 119, 3) := by decide +kernel
theorem dX2_readBridge_65 : decode cX2_readBridge 65 = .ok (.istore 5, 2) := by decide +kernel
theorem dX2_readBridge_67 : decode cX2_readBridge 67 = .ok (.iconst 0, 1) := by decide +kernel
theorem dX2_readBridge_68 : decode cX2_readBridge 68 = .ok (.istore 6, 2) := by decide +kernel
theorem dX2_readBridge_70 : decode cX2_readBridge 70 = .ok (.iconst 0, 1) := by decide +kernel
theorem dX2_readBridge_71 : decode cX2_readBridge 71 = .ok (.istore 7, 2) := by decide +kernel
theorem dX2_readBridge_73 : decode cX2_readBridge 73 = .ok (.aload_n 0, 1) := by decide +kernel
theorem dX2_readBridge_74 : decode cX2_readBridge 74 = .ok (.getfield 9, 3) := by decide +kernel
theorem dX2_readBridge_77 : decode cX2_readBridge 77 = .ok (.ldc 145, 2) := by decide +kernel
theorem dX2_readBridge_79 : decode cX2_readBridge 79 = .ok (.invokevirtual 87, 3) := by decide +kernel
theorem dX2_readBridge_82 : decode cX2_readBridge 82 = .ok (.ifCond .eq 29, 3) := by decide +kernel
theorem dX2_readBridge_85 : decode cX2_readBridge 85 = .ok (.aload_n 0, 1) := by decide +kernel
theorem dX2_readBridge_86 : decode cX2_readBridge 86 = .ok (.getfield 9, 3) := by decide +kernel
theorem dX2_readBridge_89 : decode cX2_readBridge 89 = .ok (.iconst 0, 1) := by decide +kernel
theorem dX2_readBridge_90 : decode cX2_readBridge 90 = .ok (.sipush 999, 3) := by decide +kernel
theorem dX2_readBridge_93 : decode cX2_readBridge 93 = .ok (.invokevirtual 109, 3) := by decide +kernel
theorem dX2_readBridge_96 : decode cX2_readBridge 96 = .ok (.istore 6, 2) := by decide +kernel
theorem dX2_readBridge_98 : decode cX2_readBridge 98 = .ok (.aload_n 0, 1) := by decide +kernel
theorem dX2_readBridge_99 : decode cX2_readBridge 99 = .ok (.getfield 9, 3) := by decide +kernel
theorem dX2_readBridge_102 : decode cX2_readBridge 102 = .ok (.iconst 0, 1) := by decide +kernel
theorem dX2_readBridge_103 : decode cX2_readBridge 103 = .ok (.sipush 999, 3) := by decide +kernel
theorem dX2_readBridge_106 : decode cX2_readBridge 106 = .ok (.invokevirtual 109, 3) := by decide +kernel
theorem dX2_readBridge_109 : decode cX2_readBridge 109 = .ok (.istore 7, 2) := by decide +kernel
theorem dX2_readBridge_111 : decode cX2_readBridge 111 = .ok (.aload_n 0, 1) := by decide +kernel
theorem dX2_readBridge_112 : decode cX2_readBridge 112 = .ok (.getfield 9, 3) := by decide +kernel
theorem dX2_readBridge_115 : decode cX2_readBridge 115 = .ok (.invokevirtual 51, 3) := by decide +kernel
theorem dX2_readBridge_118 : decode cX2_readBridge 118 = .ok (.ifCond .eq 28, 3) := by decide +kernel
theorem dX2_readBridge_121 : decode cX2_readBridge 121 = .ok (.aload_n 0, 1) := by decide +kernel
theorem dX2_readBridge_122 : decode cX2_readBridge 122 = .ok (.getfield 15, 3) := by decide +kernel
theorem dX2_readBridge_125 : decode cX2_readBridge 125 = .ok (.aload_n 0, 1) := by decide +kernel
theorem dX2_readBridge_126 : decode cX2_readBridge 126 = .ok (.getfield 15, 3) := by decide +kernel
theorem dX2_readBridge_129 : decode cX2_readBridge 129 = .ok (.iload_n 1, 1) := by decide +kernel
theorem dX2_readBridge_130 : decode cX2_readBridge 130 = .ok (.iload_n 2, 1) := by decide +kernel
theorem dX2_readBridge_131 : decode cX2_readBridge 131 = .ok (.iload_n 3, 1) := by decide +kernel
theorem dX2_readBridge_132 : decode cX2_readBridge 132 = .ok (.iload 4, 2) := by decide +kernel
theorem dX2_readBridge_134 : decode cX2_readBridge 134 = .ok (.iload 5, 2) := by decide +kernel
theorem dX2_readBridge_136 : decode cX2_readBridge 136 = .ok (.invokevirtual 147, 3) := by decide +kernel
theorem dX2_readBridge_139 : decode cX2_readBridge 139 = .ok (.iload 6, 2) := by decide +kernel
theorem dX2_readBridge_141 : decode cX2_readBridge 141 = .ok (.iload 7, 2) := by decide +kernel
theorem dX2_readBridge_143 : decode cX2_readBridge 143 = .ok (.invokevirtual 151, 3) := by decide +kernel
theorem dX2_readBridge_146 : decode cX2_readBridge 146 = .ok (.return_, 1) := by decide +kernel
theorem dX2_readPart_0 : decode cX2_readPart 0 = .ok (.aload_n 0, 1) := by decide +kernel
theorem dX2_readPart_1 : decode cX2_readPart 1 = .ok (.iconst 3, 1) := by decide +kernel
theorem dX2_readPart_2 : decode cX2_readPart 2 = .ok (.invokevirtual 106, 3) := by decide +kernel
theorem dX2_readPart_5 : decode cX2_readPart 5 = .ok (.aload_n 0, 1) := by decide +kernel
theorem dX2_readPart_6 : decode cX2_readPart 6 = .ok (.getfield 9, 3) := by decide +kernel
theorem dX2_readPart_9 : decode cX2_readPart 9 = .ok (.iconst 1, 1) := by decide +kernel
theorem dX2_readPart_10 : decode cX2_readPart 10 = .ok (.bipush 99, 2) := by decide +kernel
theorem dX2_readPart_12 : decode cX2_readPart 12 = .ok (.invokevirtual 109, 3) := by decide +kernel
theorem dX2_readPart_15 : decode cX2_readPart 15 = .ok (.istore_n 1, 1) := by decide +kernel
theorem dX2_readPart_16 : decode cX2_readPart 16 = .ok (.aload_n 0, 1) := by decide +kernel
theorem dX2_readPart_17 : decode cX2_readPart 17 = .ok (.getfield 9, 3) := by decide +kernel
theorem dX2_readPart_20 : decode cX2_readPart 20 = .ok (.iconst 0, 1) := by decide +kernel
theorem dX2_readPart_21 : decode cX2_readPart 21 = .ok (.bipush 99, 2) := by decide +kernel
theorem dX2_readPart_23 : decode cX2_readPart 23 = .ok (.invokevirtual 109, 3) := by decide +kernel
theorem dX2_readPart_26 : decode cX2_readPart 26 = .ok (.istore_n 2, 1) := by decide +kernel
theorem dX2_readPart_27 : decode cX2_readPart 27 = .ok (.aload_n 0, 1) := by decide +kernel
theorem dX2_readPart_28 : decode cX2_readPart 28 = .ok (.getfield 9, 3) := by decide +kernel
theorem dX2_readPart_31 : decode cX2_readPart 31 = .ok (.invokevirtual 51, 3) := by decide +kernel
theorem dX2_readPart_34 : decode cX2_readPart 34 = .ok (.ifCond .eq 13, 3) := by decide +kernel
theorem dX2_readPart_37 : decode cX2_readPart 37 = .ok (.aload_n 0, 1) := by decide +kernel
theorem dX2_readPart_38 : decode cX2_readPart 38 = .ok (.getfield 15, 3) := by decide +kernel
theorem dX2_readPart_41 : decode cX2_readPart 41 = .ok (.iload_n 1, 1) := by decide +kernel
theorem dX2_readPart_42 : decode cX2_readPart 42 = .ok (.iload_n 2, 1) := by decide +kernel
theorem dX2_readPart_43 : decode cX2_readPart 43 = .ok (.invokevirtual 163, 3) := by decide +kernel
theorem dX2_readPart_46 : decode cX2_readPart 46 = .ok (.pop, 1) := by decide +kernel
theorem dX2_readPart_47 : decode cX2_readPart 47 = .ok (.return_, 1) := by decide +kernel
theorem dX2_readRoad_0 : decode cX2_readRoad 0 = .ok (.aload_n 0, 1) := by decide +kernel
theorem dX2_readRoad_1 : decode cX2_readRoad 1 = .ok (.iconst 0, 1) := by decide +kernel
theorem dX2_readRoad_2 : decode cX2_readRoad 2 = .ok (.invokevirtual 106, 3) := by decide +kernel
theorem dX2_readRoad_5 : decode cX2_readRoad 5 = .ok (.aload_n 0, 1) := by decide +kernel
theorem dX2_readRoad_6 : decode cX2_readRoad 6 = .ok (.getfield 9, 3) := by decide +kernel
theorem dX2_readRoad_9 : decode cX2_readRoad 9 = .ok (.iconst 0, 1) := by decide +kernel
theorem dX2_readRoad_10 : decode cX2_readRoad 10 = .ok (.bipush 15, 2) := by decide +kernel
theorem dX2_readRoad_12 : decode cX2_readRoad 12 = .ok (.invokevirtual 109, 3) := by decide +kernel
theorem dX2_readRoad_15 : decode cX2_readRoad 15 = .ok (.istore_n 1, 1) := by decide +kernel
theorem dX2_readRoad_16 : decode cX2_readRoad 16 = .ok (.aload_n 0, 1) := by decide +kernel
theorem dX2_readRoad_17 : decode cX2_readRoad 17 = .ok (.getfield 9, 3) := by decide +kernel
theorem dX2_readRoad_20 : decode cX2_readRoad 20 = .ok (.invokevirtual 113, 3) := by decide +kernel
theorem dX2_readRoad_23 : decode cX2_readRoad 23 = .ok (.iload_n 1, 1) := by decide +kernel
theorem dX2_readRoad_24 : decode cX2_readRoad 24 = .ok (.if_icmp .ne 10, 3) := by decide +kernel
theorem dX2_readRoad_27 : decode cX2_readRoad 27 = .ok (.aload_n 0, 1) := by decide +kernel
theorem dX2_readRoad_28 : decode cX2_readRoad 28 = .ok (.getfield 9, 3) := by decide +kernel
theorem dX2_readRoad_31 : decode cX2_readRoad 31 = .ok (.invokevirtual 96, 3) := by decide +kernel
theorem dX2_readRoad_34 : decode cX2_readRoad 34 = .ok (.aload_n 0, 1) := by decide +kernel
theorem dX2_readRoad_35 : decode cX2_readRoad 35 = .ok (.getfield 9, 3) := by decide +kernel
theorem dX2_readRoad_38 : decode cX2_readRoad 38 = .ok (.iconst 0, 1) := by decide +kernel
theorem dX2_readRoad_39 : decode cX2_readRoad 39 = .ok (.bipush 15, 2) := by decide +kernel
theorem dX2_readRoad_41 : decode cX2_readRoad 41 = .ok (.invokevirtual 109, 3) := by decide +kernel
theorem dX2_readRoad_44 : decode cX2_readRoad 44 = .ok (.istore_n 2, 1) := by decide +kernel
theorem dX2_readRoad_45 : decode cX2_readRoad 45 = .ok (.aload_n 0, 1) := by decide +kernel
theorem dX2_readRoad_46 : decode cX2_readRoad 46 = .ok (.ldc 117, 2) := by decide +kernel
theorem dX2_readRoad_48 : decode cX2_readRoad 48 = .ok (.iconst 1, 1) := by decide +kernel
theorem dX2_readRoad_49 : decode cX2_readRoad 49 = .ok (.bipush 60, 2) := by decide +kernel
theorem dX2_readRoad_51 : decode cX2_readRoad 51 = .ok (.invokevirtual 119, 3) := by decide +kernel
theorem dX2_readRoad_54 : decode cX2_readRoad 54 = .ok (.istore_n 3, 1) := by decide +kernel
theorem dX2_readRoad_55 : decode cX2_readRoad 55 = .ok (.aload_n 0, 1) := by decide +kernel
theorem dX2_readRoad_56 : decode cX2_readRoad 56 = .ok (.ldc 123, 2) := by decide +kernel
theorem dX2_readRoad_58 : decode cX2_readRoad 58 = .ok (.iconst 0, 1) := by decide +kernel
theorem dX2_readRoad_59 : decode cX2_readRoad 59 = .ok (.bipush 9, 2) := by decide +kernel
theorem dX2_readRoad_61 : decode cX2_readRoad 61 = .ok (.iconst 0, 1) := by decide +kernel
theorem dX2_readRoad_62 : decode cX2_readRoad 62 = .ok (.invokevirtual 125, 3) := by decide +kernel
theorem dX2_readRoad_65 : decode cX2_readRoad 65 = .ok (.istore 4, 2) := by decide +kernel
theorem dX2_readRoad_67 : decode cX2_readRoad 67 = .ok (.aload_n 0, 1) := by decide +kernel
theorem dX2_readRoad_68 : decode cX2_readRoad 68 = .ok (.ldc 129, 2) := by decide +kernel
theorem dX2_readRoad_70 : decode cX2_readRoad 70 = .ok (.iconst 1, 1) := by decide +kernel
theorem dX2_readRoad_71 : decode cX2_readRoad 71 = .ok (.bipush 99, 2) := by decide +kernel
theorem dX2_readRoad_73 : decode cX2_readRoad 73 = .ok (.bipush 99, 2) := by decide +kernel
theorem dX2_readRoad_75 : decode cX2_readRoad 75 = .ok (.invokevirtual 125, 3) := by decide +kernel
theorem dX2_readRoad_78 : decode cX2_readRoad 78 = .ok (.istore 5, 2) := by decide +kernel
theorem dX2_readRoad_80 : decode cX2_readRoad 80 = .ok (.aload_n 0, 1) := by decide +kernel
theorem dX2_readRoad_81 : decode cX2_readRoad 81 = .ok (.ldc 131, 2) := by decide +kernel
theorem dX2_readRoad_83 : decode cX2_readRoad 83 = .ok (.iconst 0, 1) := by decide +kernel
theorem dX2_readRoad_84 : decode cX2_readRoad 84 = .ok (.bipush 15, 2) := by decide +kernel
theorem dX2_readRoad_86 : decode cX2_readRoad 86 = .ok (.iconst 0, 1) := by decide +kernel
theorem dX2_readRoad_87 : decode cX2_readRoad 87 = .ok (.invokevirtual 125, 3) := by decide +kernel
theorem dX2_readRoad_90 : decode cX2_readRoad 90 = .ok (.istore 6, 2) := by decide +kernel
theorem dX2_readRoad_92 : decode cX2_readRoad 92 = .ok (.aload_n 0, 1) := by decide +kernel
theorem dX2_readRoad_93 : decode cX2_readRoad 93 = .ok (.getfield 9, 3) := by decide +kernel
theorem dX2_readRoad_96 : decode cX2_readRoad 96 = .ok (.invokevirtual 51, 3) := by decide +kernel
theorem dX2_readRoad_99 : decode cX2_readRoad 99 = .ok (.ifCond .eq 20, 3) := by decide +kernel
theorem dX2_readRoad_102 : decode cX2_readRoad 102 = .ok (.aload_n 0, 1) := by decide +kernel
theorem dX2_readRoad_103 : decode cX2_readRoad 103 = .ok (.getfield 15, 3) := by decide +kernel
theorem dX2_readRoad_106 : decode cX2_readRoad 106 = .ok (.iload_n 1, 1) := by decide +kernel
theorem dX2_readRoad_107 : decode cX2_readRoad 107 = .ok (.iload_n 2, 1) := by decide +kernel
theorem dX2_readRoad_108 : decode cX2_readRoad 108 = .ok (.iload_n 3, 1) := by decide +kernel
theorem dX2_readRoad_109 : decode cX2_readRoad 109 = .ok (.iload 4, 2) := by decide +kernel
theorem dX2_readRoad_111 : decode cX2_readRoad 111 = .ok (.iload 5, 2) := by decide +kernel
theorem dX2_readRoad_113 : decode cX2_readRoad 113 = .ok (.iload 6, 2) := by decide +kernel
theorem dX2_readRoad_115 : decode cX2_readRoad 115 = .ok (.invokevirtual 133, 3) := by decide +kernel
theorem dX2_readRoad_118 : decode cX2_readRoad 118 = .ok (.pop, 1) := by decide +kernel
theorem dX2_readRoad_119 : decode cX2_readRoad 119 = .ok (.return_, 1) := by decide +kernel
theorem dX2_readSetting_0 : decode cX2_readSetting 0 = .ok (.aload_n 0, 1) := by decide +kernel
theorem dX2_readSetting_1 : decode cX2_readSetting 1 = .ok (.getfield 9, 3) := by decide +kernel
theorem dX2_readSetting_4 : decode cX2_readSetting 4 = .ok (.iconst 0, 1) := by decide +kernel
theorem dX2_readSetting_5 : decode cX2_readSetting 5 = .ok (.getstatic 166, 3) := by decide +kernel
theorem dX2_readSetting_8 : decode cX2_readSetting 8 = .ok (.iload_n 1, 1) := by decide +kernel
theorem dX2_readSetting_9 : decode cX2_readSetting 9 = .ok (.iaload, 1) := by decide +kernel
theorem dX2_readSetting_10 : decode cX2_readSetting 10 = .ok (.invokevirtual 109, 3) := by decide +kernel
theorem dX2_readSetting_13 : decode cX2_readSetting 13 = .ok (.istore_n 2, 1) := by decide +kernel
theorem dX2_readSetting_14 : decode cX2_readSetting 14 = .ok (.aload_n 0, 1) := by decide +kernel
theorem dX2_readSetting_15 : decode cX2_readSetting 15 = .ok (.getfield 9, 3) := by decide +kernel
theorem dX2_readSetting_18 : decode cX2_readSetting 18 = .ok (.invokevirtual 51, 3) := by decide +kernel
theorem dX2_readSetting_21 : decode cX2_readSetting 21 = .ok (.ifCond .eq 13, 3) := by decide +kernel
theorem dX2_readSetting_24 : decode cX2_readSetting 24 = .ok (.aload_n 0, 1) := by decide +kernel
theorem dX2_readSetting_25 : decode cX2_readSetting 25 = .ok (.getfield 15, 3) := by decide +kernel
theorem dX2_readSetting_28 : decode cX2_readSetting 28 = .ok (.getfield 40, 3) := by decide +kernel
theorem dX2_readSetting_31 : decode cX2_readSetting 31 = .ok (.iload_n 1, 1) := by decide +kernel
theorem dX2_readSetting_32 : decode cX2_readSetting 32 = .ok (.iload_n 2, 1) := by decide +kernel
theorem dX2_readSetting_33 : decode cX2_readSetting 33 = .ok (.iastore, 1) := by decide +kernel
theorem dX2_readSetting_34 : decode cX2_readSetting 34 = .ok (.return_, 1) := by decide +kernel
theorem dX2_readStatement_0 : decode cX2_readStatement 0 = .ok (.aload_n 0, 1) := by decide +kernel
theorem dX2_readStatement_1 : decode cX2_readStatement 1 = .ok (.getfield 9, 3) := by decide +kernel
theorem dX2_readStatement_4 : decode cX2_readStatement 4 = .ok (.ldc 61, 2) := by decide +kernel
theorem dX2_readStatement_6 : decode cX2_readStatement 6 = .ok (.invokevirtual 63, 3) := by decide +kernel
theorem dX2_readStatement_9 : decode cX2_readStatement 9 = .ok (.ifCond .eq 10, 3) := by decide +kernel
theorem dX2_readStatement_12 : decode cX2_readStatement 12 = .ok (.aload_n 0, 1) := by decide +kernel
theorem dX2_readStatement_13 : decode cX2_readStatement 13 = .ok (.invokevirtual 67, 3) := by decide +kernel
theorem dX2_readStatement_16 : decode cX2_readStatement 16 = .ok (.goto 107, 3) := by decide +kernel
theorem dX2_readStatement_19 : decode cX2_readStatement 19 = .ok (.aload_n 0, 1) := by decide +kernel
theorem dX2_readStatement_20 : decode cX2_readStatement 20 = .ok (.getfield 9, 3) := by decide +kernel
theorem dX2_readStatement_23 : decode cX2_readStatement 23 = .ok (.ldc 70, 2) := by decide +kernel
theorem dX2_readStatement_25 : decode cX2_readStatement 25 = .ok (.invokevirtual 63, 3) := by decide +kernel
theorem dX2_readStatement_28 : decode cX2_readStatement 28 = .ok (.ifCond .eq 10, 3) := by decide +kernel
theorem dX2_readStatement_31 : decode cX2_readStatement 31 = .ok (.aload_n 0, 1) := by decide +kernel
theorem dX2_readStatement_32 : decode cX2_readStatement 32 = .ok (.invokevirtual 72, 3) := by decide +kernel
theorem dX2_readStatement_35 : decode cX2_readStatement 35 = .ok (.goto 88, 3) := by decide +kernel
theorem dX2_readStatement_38 : decode cX2_readStatement 38 = .ok (.aload_n 0, 1) := by decide +kernel
theorem dX2_readStatement_39 : decode cX2_readStatement 39 = .ok (.getfield 9, 3) := by decide +kernel
theorem dX2_readStatement_42 : decode cX2_readStatement 42 = .ok (.ldc 75, 2) := by decide +kernel
theorem dX2_readStatement_44 : decode cX2_readStatement 44 = .ok (.invokevirtual 63, 3) := by decide +kernel
theorem dX2_readStatement_47 : decode cX2_readStatement 47 = .ok (.ifCond .eq 10, 3) := by decide +kernel
theorem dX2_readStatement_50 : decode cX2_readStatement 50 = .ok (.aload_n 0, 1) := by decide +kernel
theorem dX2_readStatement_51 : decode cX2_readStatement 51 = .ok (.invokevirtual 77, 3) := by decide +kernel
theorem dX2_readStatement_54 : decode cX2_readStatement 54 = .ok (.goto 69, 3) := by decide +kernel
theorem dX2_readStatement_57 : decode cX2_readStatement 57 = .ok (.aload_n 0, 1) := by decide +kernel
theorem dX2_readStatement_58 : decode cX2_readStatement 58 = .ok (.getfield 9, 3) := by decide +kernel
theorem dX2_readStatement_61 : decode cX2_readStatement 61 = .ok (.ldc 80, 2) := by decide +kernel
theorem dX2_readStatement_63 : decode cX2_readStatement 63 = .ok (.invokevirtual 63, 3) := by decide +kernel
theorem dX2_readStatement_66 : decode cX2_readStatement 66 = .ok (.ifCond .eq 10, 3) := by decide +kernel
theorem dX2_readStatement_69 : decode cX2_readStatement 69 = .ok (.aload_n 0, 1) := by decide +kernel
theorem dX2_readStatement_70 : decode cX2_readStatement 70 = .ok (.invokevirtual 82, 3) := by decide +kernel
theorem dX2_readStatement_73 : decode cX2_readStatement 73 = .ok (.goto 50, 3) := by decide +kernel
theorem dX2_readStatement_76 : decode cX2_readStatement 76 = .ok (.aload_n 0, 1) := by decide +kernel
theorem dX2_readStatement_77 : decode cX2_readStatement 77 = .ok (.getfield 9, 3) := by decide +kernel
theorem dX2_readStatement_80 : decode cX2_readStatement 80 = .ok (.ldc 85, 2) := by decide +kernel
theorem dX2_readStatement_82 : decode cX2_readStatement 82 = .ok (.invokevirtual 87, 3) := by decide +kernel
theorem dX2_readStatement_85 : decode cX2_readStatement 85 = .ok (.ifCond .eq 11, 3) := by decide +kernel
theorem dX2_readStatement_88 : decode cX2_readStatement 88 = .ok (.aload_n 0, 1) := by decide +kernel
theorem dX2_readStatement_89 : decode cX2_readStatement 89 = .ok (.iconst 0, 1) := by decide +kernel
theorem dX2_readStatement_90 : decode cX2_readStatement 90 = .ok (.invokevirtual 90, 3) := by decide +kernel
theorem dX2_readStatement_93 : decode cX2_readStatement 93 = .ok (.goto 30, 3) := by decide +kernel
theorem dX2_readStatement_96 : decode cX2_readStatement 96 = .ok (.aload_n 0, 1) := by decide +kernel
theorem dX2_readStatement_97 : decode cX2_readStatement 97 = .ok (.getfield 9, 3) := by decide +kernel
theorem dX2_readStatement_100 : decode cX2_readStatement 100 = .ok (.ldc 94, 2) := by decide +kernel
theorem dX2_readStatement_102 : decode cX2_readStatement 102 = .ok (.invokevirtual 87, 3) := by decide +kernel
theorem dX2_readStatement_105 : decode cX2_readStatement 105 = .ok (.ifCond .eq 11, 3) := by decide +kernel
theorem dX2_readStatement_108 : decode cX2_readStatement 108 = .ok (.aload_n 0, 1) := by decide +kernel
theorem dX2_readStatement_109 : decode cX2_readStatement 109 = .ok (.iconst 1, 1) := by decide +kernel
theorem dX2_readStatement_110 : decode cX2_readStatement 110 = .ok (.invokevirtual 90, 3) := by decide +kernel
theorem dX2_readStatement_113 : decode cX2_readStatement 113 = .ok (.goto 10, 3) := by decide +kernel
theorem dX2_readStatement_116 : decode cX2_readStatement 116 = .ok (.aload_n 0, 1) := by decide +kernel
theorem dX2_readStatement_117 : decode cX2_readStatement 117 = .ok (.getfield 9, 3) := by decide +kernel
theorem dX2_readStatement_120 : decode cX2_readStatement 120 = .ok (.invokevirtual 96, 3) := by decide +kernel
theorem dX2_readStatement_123 : decode cX2_readStatement 123 = .ok (.return_, 1) := by decide +kernel
theorem dX2_readWaggon_0 : decode cX2_readWaggon 0 = .ok (.aload_n 0, 1) := by decide +kernel
theorem dX2_readWaggon_1 : decode cX2_readWaggon 1 = .ok (.iconst 2, 1) := by decide +kernel
theorem dX2_readWaggon_2 : decode cX2_readWaggon 2 = .ok (.invokevirtual 106, 3) := by decide +kernel
theorem dX2_readWaggon_5 : decode cX2_readWaggon 5 = .ok (.aload_n 0, 1) := by decide +kernel
theorem dX2_readWaggon_6 : decode cX2_readWaggon 6 = .ok (.getfield 9, 3) := by decide +kernel
theorem dX2_readWaggon_9 : decode cX2_readWaggon 9 = .ok (.iconst 2, 1) := by decide +kernel
theorem dX2_readWaggon_10 : decode cX2_readWaggon 10 = .ok (.bipush 12, 2) := by decide +kernel
theorem dX2_readWaggon_12 : decode cX2_readWaggon 12 = .ok (.invokevirtual 109, 3) := by decide +kernel
theorem dX2_readWaggon_15 : decode cX2_readWaggon 15 = .ok (.istore_n 1, 1) := by decide +kernel
theorem dX2_readWaggon_16 : decode cX2_readWaggon 16 = .ok (.aload_n 0, 1) := by decide +kernel
theorem dX2_readWaggon_17 : decode cX2_readWaggon 17 = .ok (.ldc 155, 2) := by decide +kernel
theorem dX2_readWaggon_19 : decode cX2_readWaggon 19 = .ok (.iconst 1, 1) := by decide +kernel
theorem dX2_readWaggon_20 : decode cX2_readWaggon 20 = .ok (.bipush 9, 2) := by decide +kernel
theorem dX2_readWaggon_22 : decode cX2_readWaggon 22 = .ok (.invokevirtual 119, 3) := by decide +kernel
theorem dX2_readWaggon_25 : decode cX2_readWaggon 25 = .ok (.istore_n 2, 1) := by decide +kernel
theorem dX2_readWaggon_26 : decode cX2_readWaggon 26 = .ok (.aload_n 0, 1) := by decide +kernel
theorem dX2_readWaggon_27 : decode cX2_readWaggon 27 = .ok (.ldc 157, 2) := by decide +kernel
theorem dX2_readWaggon_29 : decode cX2_readWaggon 29 = .ok (.iconst 0, 1) := by decide +kernel
theorem dX2_readWaggon_30 : decode cX2_readWaggon 30 = .ok (.bipush 99, 2) := by decide +kernel
theorem dX2_readWaggon_32 : decode cX2_readWaggon 32 = .ok (.invokevirtual 119, 3) := by decide +kernel
theorem dX2_readWaggon_35 : decode cX2_readWaggon 35 = .ok (.istore_n 3, 1) := by decide +kernel
theorem dX2_readWaggon_36 : decode cX2_readWaggon 36 = .ok (.aload_n 0, 1) := by decide +kernel
theorem dX2_readWaggon_37 : decode cX2_readWaggon 37 = .ok (.getfield 9, 3) := by decide +kernel
theorem dX2_readWaggon_40 : decode cX2_readWaggon 40 = .ok (.invokevirtual 51, 3) := by decide +kernel
theorem dX2_readWaggon_43 : decode cX2_readWaggon 43 = .ok (.ifCond .eq 14, 3) := by decide +kernel
theorem dX2_readWaggon_46 : decode cX2_readWaggon 46 = .ok (.aload_n 0, 1) := by decide +kernel
theorem dX2_readWaggon_47 : decode cX2_readWaggon 47 = .ok (.getfield 15, 3) := by decide +kernel
theorem dX2_readWaggon_50 : decode cX2_readWaggon 50 = .ok (.iload_n 1, 1) := by decide +kernel
theorem dX2_readWaggon_51 : decode cX2_readWaggon 51 = .ok (.iload_n 2, 1) := by decide +kernel
theorem dX2_readWaggon_52 : decode cX2_readWaggon 52 = .ok (.iload_n 3, 1) := by decide +kernel
theorem dX2_readWaggon_53 : decode cX2_readWaggon 53 = .ok (.invokevirtual 159, 3) := by decide +kernel
theorem dX2_readWaggon_56 : decode cX2_readWaggon 56 = .ok (.pop, 1) := by decide +kernel
theorem dX2_readWaggon_57 : decode cX2_readWaggon 57 = .ok (.return_, 1) := by decide +kernel
theorem dX6_feed_0 : decode cX6_feed 0 = .ok (.iload_n 2, 1) := by decide +kernel
theorem dX6_feed_1 : decode cX6_feed 1 = .ok (.iconst 1, 1) := by decide +kernel
theorem dX6_feed_2 : decode cX6_feed 2 = .ok (.iconst 4, 1) := by decide +kernel
theorem dX6_feed_3 : decode cX6_feed 3 = .ok (.invokestatic 66, 3) := by decide +kernel
theorem dX6_feed_6 : decode cX6_feed 6 = .ok (.ifCond .ne 10, 3) := by decide +kernel
theorem dX6_feed_9 : decode cX6_feed 9 = .ok (.aload_n 0, 1) := by decide +kernel
theorem dX6_feed_10 : decode cX6_feed 10 = .ok (.bipush (-2), 2) := by decide +kernel
theorem dX6_feed_12 : decode cX6_feed 12 = .ok (.invokevirtual 70, 3) := by decide +kernel
theorem dX6_feed_15 : decode cX6_feed 15 = .ok (.ireturn, 1) := by decide +kernel
theorem dX6_feed_16 : decode cX6_feed 16 = .ok (.aload_n 0, 1) := by decide +kernel
theorem dX6_feed_17 : decode cX6_feed 17 = .ok (.getfield 42, 3) := by decide +kernel
theorem dX6_feed_20 : decode cX6_feed 20 = .ok (.getfield 171, 3) := by decide +kernel
theorem dX6_feed_23 : decode cX6_feed 23 = .ok (.iload_n 2, 1) := by decide +kernel
theorem dX6_feed_24 : decode cX6_feed 24 = .ok (.iadd, 1) := by decide +kernel
theorem dX6_feed_25 : decode cX6_feed 25 = .ok (.sipush 250, 3) := by decide +kernel
theorem dX6_feed_28 : decode cX6_feed 28 = .ok (.if_icmp .le 10, 3) := by decide +kernel
theorem dX6_feed_31 : decode cX6_feed 31 = .ok (.aload_n 0, 1) := by decide +kernel
theorem dX6_feed_32 : decode cX6_feed 32 = .ok (.bipush (-6), 2) := by decide +kernel
theorem dX6_feed_34 : decode cX6_feed 34 = .ok (.invokevirtual 70, 3) := by decide +kernel
theorem dX6_feed_37 : decode cX6_feed 37 = .ok (.ireturn, 1) := by decide +kernel
theorem dX6_feed_38 : decode cX6_feed 38 = .ok (.aload_n 0, 1) := by decide +kernel
theorem dX6_feed_39 : decode cX6_feed 39 = .ok (.getfield 42, 3) := by decide +kernel
theorem dX6_feed_42 : decode cX6_feed 42 = .ok (.iload_n 1, 1) := by decide +kernel
theorem dX6_feed_43 : decode cX6_feed 43 = .ok (.iload_n 2, 1) := by decide +kernel
theorem dX6_feed_44 : decode cX6_feed 44 = .ok (.invokevirtual 174, 3) := by decide +kernel
theorem dX6_feed_47 : decode cX6_feed 47 = .ok (.aload_n 0, 1) := by decide +kernel
theorem dX6_feed_48 : decode cX6_feed 48 = .ok (.getfield 42, 3) := by decide +kernel
theorem dX6_feed_51 : decode cX6_feed 51 = .ok (.getfield 171, 3) := by decide +kernel
theorem dX6_feed_54 : decode cX6_feed 54 = .ok (.ireturn, 1) := by decide +kernel
theorem dX6_land_0 : decode cX6_land 0 = .ok (.aload_n 0, 1) := by decide +kernel
theorem dX6_land_1 : decode cX6_land 1 = .ok (.getfield 51, 3) := by decide +kernel
theorem dX6_land_4 : decode cX6_land 4 = .ok (.invokevirtual 177, 3) := by decide +kernel
theorem dX6_land_7 : decode cX6_land 7 = .ok (.istore_n 1, 1) := by decide +kernel
theorem dX6_land_8 : decode cX6_land 8 = .ok (.aload_n 0, 1) := by decide +kernel
theorem dX6_land_9 : decode cX6_land 9 = .ok (.getfield 42, 3) := by decide +kernel
theorem dX6_land_12 : decode cX6_land 12 = .ok (.iconst 0, 1) := by decide +kernel
theorem dX6_land_13 : decode cX6_land 13 = .ok (.putfield 171, 3) := by decide +kernel
theorem dX6_land_16 : decode cX6_land 16 = .ok (.aload_n 0, 1) := by decide +kernel
theorem dX6_land_17 : decode cX6_land 17 = .ok (.getfield 42, 3) := by decide +kernel
theorem dX6_land_20 : decode cX6_land 20 = .ok (.getfield 181, 3) := by decide +kernel
theorem dX6_land_23 : decode cX6_land 23 = .ok (.iconst (-1), 1) := by decide +kernel
theorem dX6_land_24 : decode cX6_land 24 = .ok (.if_icmp .eq 21, 3) := by decide +kernel
theorem dX6_land_27 : decode cX6_land 27 = .ok (.aload_n 0, 1) := by decide +kernel
theorem dX6_land_28 : decode cX6_land 28 = .ok (.bipush (-2), 2) := by decide +kernel
theorem dX6_land_30 : decode cX6_land 30 = .ok (.invokevirtual 70, 3) := by decide +kernel
theorem dX6_land_33 : decode cX6_land 33 = .ok (.pop, 1) := by decide +kernel
theorem dX6_land_34 : decode cX6_land 34 = .ok (.bipush (-20), 2) := by decide +kernel
theorem dX6_land_36 : decode cX6_land 36 = .ok (.aload_n 0, 1) := by decide +kernel
theorem dX6_land_37 : decode cX6_land 37 = .ok (.getfield 42, 3) := by decide +kernel
theorem dX6_land_40 : decode cX6_land 40 = .ok (.getfield 181, 3) := by decide +kernel
theorem dX6_land_43 : decode cX6_land 43 = .ok (.isub, 1) := by decide +kernel
theorem dX6_land_44 : decode cX6_land 44 = .ok (.ireturn, 1) := by decide +kernel
theorem dX6_land_45 : decode cX6_land 45 = .ok (.iload_n 1, 1) := by decide +kernel
theorem dX6_land_46 : decode cX6_land 46 = .ok (.ireturn, 1) := by decide +kernel

