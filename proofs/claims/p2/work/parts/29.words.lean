theorem dX3_asSort_0 : decode cX3_asSort 0 = .ok (.iload_n 0, 1) := by decide +kernel
theorem dX3_asSort_1 : decode cX3_asSort 1 = .ok (.tableswitch 61 0 4 #[35, 40, 45, 61, 49], 35) := by decide +kernel
theorem dX3_asSort_36 : decode cX3_asSort 36 = .ok (.lload_n 1, 1) := by decide +kernel
theorem dX3_asSort_37 : decode cX3_asSort 37 = .ok (.l2i, 1) := by decide +kernel
theorem dX3_asSort_38 : decode cX3_asSort 38 = .ok (.i2b, 1) := by decide +kernel
theorem dX3_asSort_39 : decode cX3_asSort 39 = .ok (.i2l, 1) := by decide +kernel
theorem dX3_asSort_40 : decode cX3_asSort 40 = .ok (.lreturn, 1) := by decide +kernel
theorem dX3_asSort_41 : decode cX3_asSort 41 = .ok (.lload_n 1, 1) := by decide +kernel
theorem dX3_asSort_42 : decode cX3_asSort 42 = .ok (.l2i, 1) := by decide +kernel
theorem dX3_asSort_43 : decode cX3_asSort 43 = .ok (.i2s, 1) := by decide +kernel
theorem dX3_asSort_44 : decode cX3_asSort 44 = .ok (.i2l, 1) := by decide +kernel
theorem dX3_asSort_45 : decode cX3_asSort 45 = .ok (.lreturn, 1) := by decide +kernel
theorem dX3_asSort_46 : decode cX3_asSort 46 = .ok (.lload_n 1, 1) := by decide +kernel
theorem dX3_asSort_47 : decode cX3_asSort 47 = .ok (.l2i, 1) := by decide +kernel
theorem dX3_asSort_48 : decode cX3_asSort 48 = .ok (.i2l, 1) := by decide +kernel
theorem dX3_asSort_49 : decode cX3_asSort 49 = .ok (.lreturn, 1) := by decide +kernel
theorem dX3_asSort_50 : decode cX3_asSort 50 = .ok (.lload_n 1, 1) := by decide +kernel
theorem dX3_asSort_51 : decode cX3_asSort 51 = .ok (.lconst 0, 1) := by decide +kernel
theorem dX3_asSort_52 : decode cX3_asSort 52 = .ok (.lcmp, 1) := by decide +kernel
theorem dX3_asSort_53 : decode cX3_asSort 53 = .ok (.ifCond .eq 7, 3) := by decide +kernel
theorem dX3_asSort_56 : decode cX3_asSort 56 = .ok (.lconst 1, 1) := by decide +kernel
theorem dX3_asSort_57 : decode cX3_asSort 57 = .ok (.goto 4, 3) := by decide +kernel
theorem dX3_asSort_60 : decode cX3_asSort 60 = .ok (.lconst 0, 1) := by decide +kernel
theorem dX3_asSort_61 : decode cX3_asSort 61 = .ok (.lreturn, 1) := by decide +kernel
theorem dX3_asSort_62 : decode cX3_asSort 62 = .ok (.lload_n 1, 1) := by decide +kernel
theorem dX3_asSort_63 : decode cX3_asSort 63 = .ok (.lreturn, 1) := by decide +kernel
theorem dX3_countHeld_0 : decode cX3_countHeld 0 = .ok (.iconst 0, 1) := by decide +kernel
theorem dX3_countHeld_1 : decode cX3_countHeld 1 = .ok (.istore_n 1, 1) := by decide +kernel
theorem dX3_countHeld_2 : decode cX3_countHeld 2 = .ok (.iconst 0, 1) := by decide +kernel
theorem dX3_countHeld_3 : decode cX3_countHeld 3 = .ok (.istore_n 2, 1) := by decide +kernel
theorem dX3_countHeld_4 : decode cX3_countHeld 4 = .ok (.iload_n 2, 1) := by decide +kernel
theorem dX3_countHeld_5 : decode cX3_countHeld 5 = .ok (.bipush 8, 2) := by decide +kernel
theorem dX3_countHeld_7 : decode cX3_countHeld 7 = .ok (.if_icmp .ge 20, 3) := by decide +kernel
theorem dX3_countHeld_10 : decode cX3_countHeld 10 = .ok (.aload_n 0, 1) := by decide +kernel
theorem dX3_countHeld_11 : decode cX3_countHeld 11 = .ok (.iload_n 2, 1) := by decide +kernel
theorem dX3_countHeld_12 : decode cX3_countHeld 12 = .ok (.invokevirtual 22, 3) := by decide +kernel
theorem dX3_countHeld_15 : decode cX3_countHeld 15 = .ok (.ifCond .ne 6, 3) := by decide +kernel
theorem dX3_countHeld_18 : decode cX3_countHeld 18 = .ok (.iinc 1 1, 3) := by decide +kernel
theorem dX3_countHeld_21 : decode cX3_countHeld 21 = .ok (.iinc 2 1, 3) := by decide +kernel
theorem dX3_countHeld_24 : decode cX3_countHeld 24 = .ok (.goto (-20), 3) := by decide +kernel
theorem dX3_countHeld_27 : decode cX3_countHeld 27 = .ok (.iload_n 1, 1) := by decide +kernel
theorem dX3_countHeld_28 : decode cX3_countHeld 28 = .ok (.ireturn, 1) := by decide +kernel
