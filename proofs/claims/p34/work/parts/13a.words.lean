theorem bg_dX3_asSort_0 : bysAt cX3_asSort 0 [26] := bysAt_of (by decide +kernel)
theorem dX3_asSort_0 : decode cX3_asSort 0 = .ok (.iload_n 0, 1) := o_26 (bg_dX3_asSort_0 0 26 rfl)
theorem bg_dX3_asSort_36 : bysAt cX3_asSort 36 [31, 136, 145, 133, 173, 31, 136, 147, 133, 173, 31, 136, 133, 173] := bysAt_of (by decide +kernel)
theorem dX3_asSort_36 : decode cX3_asSort 36 = .ok (.lload_n 1, 1) := o_31 (bg_dX3_asSort_36 0 31 rfl)
theorem dX3_asSort_37 : decode cX3_asSort 37 = .ok (.l2i, 1) := o_136 (bg_dX3_asSort_36 1 136 rfl)
theorem dX3_asSort_38 : decode cX3_asSort 38 = .ok (.i2b, 1) := o_145 (bg_dX3_asSort_36 2 145 rfl)
theorem dX3_asSort_39 : decode cX3_asSort 39 = .ok (.i2l, 1) := o_133 (bg_dX3_asSort_36 3 133 rfl)
theorem dX3_asSort_40 : decode cX3_asSort 40 = .ok (.lreturn, 1) := o_173 (bg_dX3_asSort_36 4 173 rfl)
theorem dX3_asSort_41 : decode cX3_asSort 41 = .ok (.lload_n 1, 1) := o_31 (bg_dX3_asSort_36 5 31 rfl)
theorem dX3_asSort_42 : decode cX3_asSort 42 = .ok (.l2i, 1) := o_136 (bg_dX3_asSort_36 6 136 rfl)
theorem dX3_asSort_43 : decode cX3_asSort 43 = .ok (.i2s, 1) := o_147 (bg_dX3_asSort_36 7 147 rfl)
theorem dX3_asSort_44 : decode cX3_asSort 44 = .ok (.i2l, 1) := o_133 (bg_dX3_asSort_36 8 133 rfl)
theorem dX3_asSort_45 : decode cX3_asSort 45 = .ok (.lreturn, 1) := o_173 (bg_dX3_asSort_36 9 173 rfl)
theorem dX3_asSort_46 : decode cX3_asSort 46 = .ok (.lload_n 1, 1) := o_31 (bg_dX3_asSort_36 10 31 rfl)
theorem dX3_asSort_47 : decode cX3_asSort 47 = .ok (.l2i, 1) := o_136 (bg_dX3_asSort_36 11 136 rfl)
theorem dX3_asSort_48 : decode cX3_asSort 48 = .ok (.i2l, 1) := o_133 (bg_dX3_asSort_36 12 133 rfl)
theorem dX3_asSort_49 : decode cX3_asSort 49 = .ok (.lreturn, 1) := o_173 (bg_dX3_asSort_36 13 173 rfl)
theorem bg_dX3_asSort_50 : bysAt cX3_asSort 50 [31, 9, 148, 153, 0, 7, 10, 167, 0, 4, 9, 173, 31, 173] := bysAt_of (by decide +kernel)
theorem dX3_asSort_50 : decode cX3_asSort 50 = .ok (.lload_n 1, 1) := o_31 (bg_dX3_asSort_50 0 31 rfl)
theorem dX3_asSort_51 : decode cX3_asSort 51 = .ok (.lconst 0, 1) := o_9 (bg_dX3_asSort_50 1 9 rfl)
theorem dX3_asSort_52 : decode cX3_asSort 52 = .ok (.lcmp, 1) := o_148 (bg_dX3_asSort_50 2 148 rfl)
theorem dX3_asSort_53 : decode cX3_asSort 53 = .ok (.ifCond .eq 7, 3) := o_153 (bg_dX3_asSort_50 3 153 rfl) (bg_dX3_asSort_50 4 0 rfl) (bg_dX3_asSort_50 5 7 rfl) (by decide +kernel)
theorem dX3_asSort_56 : decode cX3_asSort 56 = .ok (.lconst 1, 1) := o_10 (bg_dX3_asSort_50 6 10 rfl)
theorem dX3_asSort_57 : decode cX3_asSort 57 = .ok (.goto 4, 3) := o_167 (bg_dX3_asSort_50 7 167 rfl) (bg_dX3_asSort_50 8 0 rfl) (bg_dX3_asSort_50 9 4 rfl) (by decide +kernel)
theorem dX3_asSort_60 : decode cX3_asSort 60 = .ok (.lconst 0, 1) := o_9 (bg_dX3_asSort_50 10 9 rfl)
theorem dX3_asSort_61 : decode cX3_asSort 61 = .ok (.lreturn, 1) := o_173 (bg_dX3_asSort_50 11 173 rfl)
theorem dX3_asSort_62 : decode cX3_asSort 62 = .ok (.lload_n 1, 1) := o_31 (bg_dX3_asSort_50 12 31 rfl)
theorem dX3_asSort_63 : decode cX3_asSort 63 = .ok (.lreturn, 1) := o_173 (bg_dX3_asSort_50 13 173 rfl)
theorem bg_dX3_countHeld_0 : bysAt cX3_countHeld 0 [3, 60, 3, 61, 28, 16, 8, 162, 0, 20, 42, 28, 182, 0, 22, 154, 0, 6, 132, 1, 1, 132, 2, 1, 167, 255, 236, 27, 172] := bysAt_of (by decide +kernel)
theorem dX3_countHeld_0 : decode cX3_countHeld 0 = .ok (.iconst 0, 1) := o_3 (bg_dX3_countHeld_0 0 3 rfl)
theorem dX3_countHeld_1 : decode cX3_countHeld 1 = .ok (.istore_n 1, 1) := o_60 (bg_dX3_countHeld_0 1 60 rfl)
theorem dX3_countHeld_2 : decode cX3_countHeld 2 = .ok (.iconst 0, 1) := o_3 (bg_dX3_countHeld_0 2 3 rfl)
theorem dX3_countHeld_3 : decode cX3_countHeld 3 = .ok (.istore_n 2, 1) := o_61 (bg_dX3_countHeld_0 3 61 rfl)
theorem dX3_countHeld_4 : decode cX3_countHeld 4 = .ok (.iload_n 2, 1) := o_28 (bg_dX3_countHeld_0 4 28 rfl)
theorem dX3_countHeld_5 : decode cX3_countHeld 5 = .ok (.bipush 8, 2) := o_16 (bg_dX3_countHeld_0 5 16 rfl) (bg_dX3_countHeld_0 6 8 rfl) (by decide +kernel)
theorem dX3_countHeld_7 : decode cX3_countHeld 7 = .ok (.if_icmp .ge 20, 3) := o_162 (bg_dX3_countHeld_0 7 162 rfl) (bg_dX3_countHeld_0 8 0 rfl) (bg_dX3_countHeld_0 9 20 rfl) (by decide +kernel)
theorem dX3_countHeld_10 : decode cX3_countHeld 10 = .ok (.aload_n 0, 1) := o_42 (bg_dX3_countHeld_0 10 42 rfl)
theorem dX3_countHeld_11 : decode cX3_countHeld 11 = .ok (.iload_n 2, 1) := o_28 (bg_dX3_countHeld_0 11 28 rfl)
theorem dX3_countHeld_12 : decode cX3_countHeld 12 = .ok (.invokevirtual 22, 3) := o_182 (bg_dX3_countHeld_0 12 182 rfl) (bg_dX3_countHeld_0 13 0 rfl) (bg_dX3_countHeld_0 14 22 rfl)
theorem dX3_countHeld_15 : decode cX3_countHeld 15 = .ok (.ifCond .ne 6, 3) := o_154 (bg_dX3_countHeld_0 15 154 rfl) (bg_dX3_countHeld_0 16 0 rfl) (bg_dX3_countHeld_0 17 6 rfl) (by decide +kernel)
theorem dX3_countHeld_24 : decode cX3_countHeld 24 = .ok (.goto (-20), 3) := o_167 (bg_dX3_countHeld_0 24 167 rfl) (bg_dX3_countHeld_0 25 255 rfl) (bg_dX3_countHeld_0 26 236 rfl) (by decide +kernel)
theorem dX3_countHeld_27 : decode cX3_countHeld 27 = .ok (.iload_n 1, 1) := o_27 (bg_dX3_countHeld_0 27 27 rfl)
theorem dX3_countHeld_28 : decode cX3_countHeld 28 = .ok (.ireturn, 1) := o_172 (bg_dX3_countHeld_0 28 172 rfl)
theorem bg_dX3_dropBridgesFrom_0 : bysAt cX3_dropBridgesFrom 0 [3, 61, 28, 16, 8, 162, 0, 28, 42, 180, 0, 9, 28, 46, 16, 10, 27, 96, 161, 0, 9, 42] := bysAt_of (by decide +kernel)
theorem dX3_dropBridgesFrom_0 : decode cX3_dropBridgesFrom 0 = .ok (.iconst 0, 1) := o_3 (bg_dX3_dropBridgesFrom_0 0 3 rfl)
theorem dX3_dropBridgesFrom_1 : decode cX3_dropBridgesFrom 1 = .ok (.istore_n 2, 1) := o_61 (bg_dX3_dropBridgesFrom_0 1 61 rfl)
theorem dX3_dropBridgesFrom_2 : decode cX3_dropBridgesFrom 2 = .ok (.iload_n 2, 1) := o_28 (bg_dX3_dropBridgesFrom_0 2 28 rfl)
theorem dX3_dropBridgesFrom_3 : decode cX3_dropBridgesFrom 3 = .ok (.bipush 8, 2) := o_16 (bg_dX3_dropBridgesFrom_0 3 16 rfl) (bg_dX3_dropBridgesFrom_0 4 8 rfl) (by decide +kernel)
theorem dX3_dropBridgesFrom_5 : decode cX3_dropBridgesFrom 5 = .ok (.if_icmp .ge 28, 3) := o_162 (bg_dX3_dropBridgesFrom_0 5 162 rfl) (bg_dX3_dropBridgesFrom_0 6 0 rfl) (bg_dX3_dropBridgesFrom_0 7 28 rfl) (by decide +kernel)
theorem dX3_dropBridgesFrom_8 : decode cX3_dropBridgesFrom 8 = .ok (.aload_n 0, 1) := o_42 (bg_dX3_dropBridgesFrom_0 8 42 rfl)
theorem dX3_dropBridgesFrom_9 : decode cX3_dropBridgesFrom 9 = .ok (.getfield 9, 3) := o_180 (bg_dX3_dropBridgesFrom_0 9 180 rfl) (bg_dX3_dropBridgesFrom_0 10 0 rfl) (bg_dX3_dropBridgesFrom_0 11 9 rfl)
theorem dX3_dropBridgesFrom_12 : decode cX3_dropBridgesFrom 12 = .ok (.iload_n 2, 1) := o_28 (bg_dX3_dropBridgesFrom_0 12 28 rfl)
theorem dX3_dropBridgesFrom_13 : decode cX3_dropBridgesFrom 13 = .ok (.iaload, 1) := o_46 (bg_dX3_dropBridgesFrom_0 13 46 rfl)
theorem dX3_dropBridgesFrom_14 : decode cX3_dropBridgesFrom 14 = .ok (.bipush 10, 2) := o_16 (bg_dX3_dropBridgesFrom_0 14 16 rfl) (bg_dX3_dropBridgesFrom_0 15 10 rfl) (by decide +kernel)
theorem dX3_dropBridgesFrom_16 : decode cX3_dropBridgesFrom 16 = .ok (.iload_n 1, 1) := o_27 (bg_dX3_dropBridgesFrom_0 16 27 rfl)
theorem dX3_dropBridgesFrom_17 : decode cX3_dropBridgesFrom 17 = .ok (.iadd, 1) := o_96 (bg_dX3_dropBridgesFrom_0 17 96 rfl)
theorem dX3_dropBridgesFrom_18 : decode cX3_dropBridgesFrom 18 = .ok (.if_icmp .lt 9, 3) := o_161 (bg_dX3_dropBridgesFrom_0 18 161 rfl) (bg_dX3_dropBridgesFrom_0 19 0 rfl) (bg_dX3_dropBridgesFrom_0 20 9 rfl) (by decide +kernel)
theorem dX3_dropBridgesFrom_21 : decode cX3_dropBridgesFrom 21 = .ok (.aload_n 0, 1) := o_42 (bg_dX3_dropBridgesFrom_0 21 42 rfl)
theorem bg_dX3_dropBridgesFrom_22 : bysAt cX3_dropBridgesFrom 22 [28, 2, 182, 0, 32, 132, 2, 1, 167, 255, 228, 177] := bysAt_of (by decide +kernel)
theorem dX3_dropBridgesFrom_22 : decode cX3_dropBridgesFrom 22 = .ok (.iload_n 2, 1) := o_28 (bg_dX3_dropBridgesFrom_22 0 28 rfl)
theorem dX3_dropBridgesFrom_23 : decode cX3_dropBridgesFrom 23 = .ok (.iconst (-1), 1) := o_2 (bg_dX3_dropBridgesFrom_22 1 2 rfl)
theorem dX3_dropBridgesFrom_24 : decode cX3_dropBridgesFrom 24 = .ok (.invokevirtual 32, 3) := o_182 (bg_dX3_dropBridgesFrom_22 2 182 rfl) (bg_dX3_dropBridgesFrom_22 3 0 rfl) (bg_dX3_dropBridgesFrom_22 4 32 rfl)
theorem dX3_dropBridgesFrom_30 : decode cX3_dropBridgesFrom 30 = .ok (.goto (-28), 3) := o_167 (bg_dX3_dropBridgesFrom_22 8 167 rfl) (bg_dX3_dropBridgesFrom_22 9 255 rfl) (bg_dX3_dropBridgesFrom_22 10 228 rfl) (by decide +kernel)
theorem dX3_dropBridgesFrom_33 : decode cX3_dropBridgesFrom 33 = .ok (.return_, 1) := o_177 (bg_dX3_dropBridgesFrom_22 11 177 rfl)
theorem bg_dX3_elementAt_0 : bysAt cX3_elementAt 0 [28, 3, 42, 180, 0, 15, 27, 46, 4, 100, 184, 0, 36, 153, 0, 17, 42, 180, 0, 18, 27, 16, 40] := bysAt_of (by decide +kernel)
theorem dX3_elementAt_0 : decode cX3_elementAt 0 = .ok (.iload_n 2, 1) := o_28 (bg_dX3_elementAt_0 0 28 rfl)
theorem dX3_elementAt_1 : decode cX3_elementAt 1 = .ok (.iconst 0, 1) := o_3 (bg_dX3_elementAt_0 1 3 rfl)
theorem dX3_elementAt_2 : decode cX3_elementAt 2 = .ok (.aload_n 0, 1) := o_42 (bg_dX3_elementAt_0 2 42 rfl)
theorem dX3_elementAt_3 : decode cX3_elementAt 3 = .ok (.getfield 15, 3) := o_180 (bg_dX3_elementAt_0 3 180 rfl) (bg_dX3_elementAt_0 4 0 rfl) (bg_dX3_elementAt_0 5 15 rfl)
theorem dX3_elementAt_6 : decode cX3_elementAt 6 = .ok (.iload_n 1, 1) := o_27 (bg_dX3_elementAt_0 6 27 rfl)
theorem dX3_elementAt_7 : decode cX3_elementAt 7 = .ok (.iaload, 1) := o_46 (bg_dX3_elementAt_0 7 46 rfl)
theorem dX3_elementAt_8 : decode cX3_elementAt 8 = .ok (.iconst 1, 1) := o_4 (bg_dX3_elementAt_0 8 4 rfl)
theorem dX3_elementAt_9 : decode cX3_elementAt 9 = .ok (.isub, 1) := o_100 (bg_dX3_elementAt_0 9 100 rfl)
theorem dX3_elementAt_10 : decode cX3_elementAt 10 = .ok (.invokestatic 36, 3) := o_184 (bg_dX3_elementAt_0 10 184 rfl) (bg_dX3_elementAt_0 11 0 rfl) (bg_dX3_elementAt_0 12 36 rfl)
theorem dX3_elementAt_13 : decode cX3_elementAt 13 = .ok (.ifCond .eq 17, 3) := o_153 (bg_dX3_elementAt_0 13 153 rfl) (bg_dX3_elementAt_0 14 0 rfl) (bg_dX3_elementAt_0 15 17 rfl) (by decide +kernel)
theorem dX3_elementAt_16 : decode cX3_elementAt 16 = .ok (.aload_n 0, 1) := o_42 (bg_dX3_elementAt_0 16 42 rfl)
theorem dX3_elementAt_17 : decode cX3_elementAt 17 = .ok (.getfield 18, 3) := o_180 (bg_dX3_elementAt_0 17 180 rfl) (bg_dX3_elementAt_0 18 0 rfl) (bg_dX3_elementAt_0 19 18 rfl)
theorem dX3_elementAt_20 : decode cX3_elementAt 20 = .ok (.iload_n 1, 1) := o_27 (bg_dX3_elementAt_0 20 27 rfl)
theorem dX3_elementAt_21 : decode cX3_elementAt 21 = .ok (.bipush 40, 2) := o_16 (bg_dX3_elementAt_0 21 16 rfl) (bg_dX3_elementAt_0 22 40 rfl) (by decide +kernel)
theorem bg_dX3_elementAt_23 : bysAt cX3_elementAt 23 [104, 28, 96, 47, 167, 0, 4, 9, 173] := bysAt_of (by decide +kernel)
theorem dX3_elementAt_23 : decode cX3_elementAt 23 = .ok (.imul, 1) := o_104 (bg_dX3_elementAt_23 0 104 rfl)
theorem dX3_elementAt_24 : decode cX3_elementAt 24 = .ok (.iload_n 2, 1) := o_28 (bg_dX3_elementAt_23 1 28 rfl)
theorem dX3_elementAt_25 : decode cX3_elementAt 25 = .ok (.iadd, 1) := o_96 (bg_dX3_elementAt_23 2 96 rfl)
theorem dX3_elementAt_26 : decode cX3_elementAt 26 = .ok (.laload, 1) := o_47 (bg_dX3_elementAt_23 3 47 rfl)
theorem dX3_elementAt_27 : decode cX3_elementAt 27 = .ok (.goto 4, 3) := o_167 (bg_dX3_elementAt_23 4 167 rfl) (bg_dX3_elementAt_23 5 0 rfl) (bg_dX3_elementAt_23 6 4 rfl) (by decide +kernel)
theorem dX3_elementAt_30 : decode cX3_elementAt 30 = .ok (.lconst 0, 1) := o_9 (bg_dX3_elementAt_23 7 9 rfl)
theorem dX3_elementAt_31 : decode cX3_elementAt 31 = .ok (.lreturn, 1) := o_173 (bg_dX3_elementAt_23 8 173 rfl)
theorem bg_dX3_holdsBridge_0 : bysAt cX3_holdsBridge 0 [42, 180, 0, 9, 27, 46, 16, 10, 161, 0, 7, 4, 167, 0, 4, 3, 172] := bysAt_of (by decide +kernel)
theorem dX3_holdsBridge_0 : decode cX3_holdsBridge 0 = .ok (.aload_n 0, 1) := o_42 (bg_dX3_holdsBridge_0 0 42 rfl)
theorem dX3_holdsBridge_1 : decode cX3_holdsBridge 1 = .ok (.getfield 9, 3) := o_180 (bg_dX3_holdsBridge_0 1 180 rfl) (bg_dX3_holdsBridge_0 2 0 rfl) (bg_dX3_holdsBridge_0 3 9 rfl)
theorem dX3_holdsBridge_4 : decode cX3_holdsBridge 4 = .ok (.iload_n 1, 1) := o_27 (bg_dX3_holdsBridge_0 4 27 rfl)
theorem dX3_holdsBridge_5 : decode cX3_holdsBridge 5 = .ok (.iaload, 1) := o_46 (bg_dX3_holdsBridge_0 5 46 rfl)
theorem dX3_holdsBridge_6 : decode cX3_holdsBridge 6 = .ok (.bipush 10, 2) := o_16 (bg_dX3_holdsBridge_0 6 16 rfl) (bg_dX3_holdsBridge_0 7 10 rfl) (by decide +kernel)
theorem dX3_holdsBridge_8 : decode cX3_holdsBridge 8 = .ok (.if_icmp .lt 7, 3) := o_161 (bg_dX3_holdsBridge_0 8 161 rfl) (bg_dX3_holdsBridge_0 9 0 rfl) (bg_dX3_holdsBridge_0 10 7 rfl) (by decide +kernel)
theorem dX3_holdsBridge_11 : decode cX3_holdsBridge 11 = .ok (.iconst 1, 1) := o_4 (bg_dX3_holdsBridge_0 11 4 rfl)
theorem dX3_holdsBridge_12 : decode cX3_holdsBridge 12 = .ok (.goto 4, 3) := o_167 (bg_dX3_holdsBridge_0 12 167 rfl) (bg_dX3_holdsBridge_0 13 0 rfl) (bg_dX3_holdsBridge_0 14 4 rfl) (by decide +kernel)
theorem dX3_holdsBridge_15 : decode cX3_holdsBridge 15 = .ok (.iconst 0, 1) := o_3 (bg_dX3_holdsBridge_0 15 3 rfl)
theorem dX3_holdsBridge_16 : decode cX3_holdsBridge 16 = .ok (.ireturn, 1) := o_172 (bg_dX3_holdsBridge_0 16 172 rfl)
theorem bg_dX3_holdsNothing_0 : bysAt cX3_holdsNothing 0 [42, 180, 0, 9, 27, 46, 2, 160, 0, 7, 4, 167, 0, 4, 3, 172] := bysAt_of (by decide +kernel)
theorem dX3_holdsNothing_0 : decode cX3_holdsNothing 0 = .ok (.aload_n 0, 1) := o_42 (bg_dX3_holdsNothing_0 0 42 rfl)
theorem dX3_holdsNothing_1 : decode cX3_holdsNothing 1 = .ok (.getfield 9, 3) := o_180 (bg_dX3_holdsNothing_0 1 180 rfl) (bg_dX3_holdsNothing_0 2 0 rfl) (bg_dX3_holdsNothing_0 3 9 rfl)
theorem dX3_holdsNothing_4 : decode cX3_holdsNothing 4 = .ok (.iload_n 1, 1) := o_27 (bg_dX3_holdsNothing_0 4 27 rfl)
theorem dX3_holdsNothing_5 : decode cX3_holdsNothing 5 = .ok (.iaload, 1) := o_46 (bg_dX3_holdsNothing_0 5 46 rfl)
theorem dX3_holdsNothing_6 : decode cX3_holdsNothing 6 = .ok (.iconst (-1), 1) := o_2 (bg_dX3_holdsNothing_0 6 2 rfl)
theorem dX3_holdsNothing_7 : decode cX3_holdsNothing 7 = .ok (.if_icmp .ne 7, 3) := o_160 (bg_dX3_holdsNothing_0 7 160 rfl) (bg_dX3_holdsNothing_0 8 0 rfl) (bg_dX3_holdsNothing_0 9 7 rfl) (by decide +kernel)
theorem dX3_holdsNothing_10 : decode cX3_holdsNothing 10 = .ok (.iconst 1, 1) := o_4 (bg_dX3_holdsNothing_0 10 4 rfl)
theorem dX3_holdsNothing_11 : decode cX3_holdsNothing 11 = .ok (.goto 4, 3) := o_167 (bg_dX3_holdsNothing_0 11 167 rfl) (bg_dX3_holdsNothing_0 12 0 rfl) (bg_dX3_holdsNothing_0 13 4 rfl) (by decide +kernel)
theorem dX3_holdsNothing_14 : decode cX3_holdsNothing 14 = .ok (.iconst 0, 1) := o_3 (bg_dX3_holdsNothing_0 14 3 rfl)
theorem dX3_holdsNothing_15 : decode cX3_holdsNothing 15 = .ok (.ireturn, 1) := o_172 (bg_dX3_holdsNothing_0 15 172 rfl)
theorem bg_dX3_holdsRow_0 : bysAt cX3_holdsRow 0 [42, 27, 182, 0, 22, 154, 0, 15, 42, 27, 182, 0, 26, 154, 0, 7, 4, 167, 0, 4, 3, 172] := bysAt_of (by decide +kernel)
theorem dX3_holdsRow_0 : decode cX3_holdsRow 0 = .ok (.aload_n 0, 1) := o_42 (bg_dX3_holdsRow_0 0 42 rfl)
theorem dX3_holdsRow_1 : decode cX3_holdsRow 1 = .ok (.iload_n 1, 1) := o_27 (bg_dX3_holdsRow_0 1 27 rfl)
theorem dX3_holdsRow_2 : decode cX3_holdsRow 2 = .ok (.invokevirtual 22, 3) := o_182 (bg_dX3_holdsRow_0 2 182 rfl) (bg_dX3_holdsRow_0 3 0 rfl) (bg_dX3_holdsRow_0 4 22 rfl)
theorem dX3_holdsRow_5 : decode cX3_holdsRow 5 = .ok (.ifCond .ne 15, 3) := o_154 (bg_dX3_holdsRow_0 5 154 rfl) (bg_dX3_holdsRow_0 6 0 rfl) (bg_dX3_holdsRow_0 7 15 rfl) (by decide +kernel)
theorem dX3_holdsRow_8 : decode cX3_holdsRow 8 = .ok (.aload_n 0, 1) := o_42 (bg_dX3_holdsRow_0 8 42 rfl)
theorem dX3_holdsRow_9 : decode cX3_holdsRow 9 = .ok (.iload_n 1, 1) := o_27 (bg_dX3_holdsRow_0 9 27 rfl)
theorem dX3_holdsRow_10 : decode cX3_holdsRow 10 = .ok (.invokevirtual 26, 3) := o_182 (bg_dX3_holdsRow_0 10 182 rfl) (bg_dX3_holdsRow_0 11 0 rfl) (bg_dX3_holdsRow_0 12 26 rfl)
theorem dX3_holdsRow_13 : decode cX3_holdsRow 13 = .ok (.ifCond .ne 7, 3) := o_154 (bg_dX3_holdsRow_0 13 154 rfl) (bg_dX3_holdsRow_0 14 0 rfl) (bg_dX3_holdsRow_0 15 7 rfl) (by decide +kernel)
theorem dX3_holdsRow_16 : decode cX3_holdsRow 16 = .ok (.iconst 1, 1) := o_4 (bg_dX3_holdsRow_0 16 4 rfl)
theorem dX3_holdsRow_17 : decode cX3_holdsRow 17 = .ok (.goto 4, 3) := o_167 (bg_dX3_holdsRow_0 17 167 rfl) (bg_dX3_holdsRow_0 18 0 rfl) (bg_dX3_holdsRow_0 19 4 rfl) (by decide +kernel)
theorem dX3_holdsRow_20 : decode cX3_holdsRow 20 = .ok (.iconst 0, 1) := o_3 (bg_dX3_holdsRow_0 20 3 rfl)
theorem dX3_holdsRow_21 : decode cX3_holdsRow 21 = .ok (.ireturn, 1) := o_172 (bg_dX3_holdsRow_0 21 172 rfl)
theorem bg_dX3_holdsUnlikeRows_0 : bysAt cX3_holdsUnlikeRows 0 [42, 27, 182, 0, 29, 153, 0, 30, 42, 28, 182, 0, 29, 153, 0, 22, 42, 180, 0, 9, 27, 46, 42, 180, 0, 9] := bysAt_of (by decide +kernel)
theorem dX3_holdsUnlikeRows_0 : decode cX3_holdsUnlikeRows 0 = .ok (.aload_n 0, 1) := o_42 (bg_dX3_holdsUnlikeRows_0 0 42 rfl)
theorem dX3_holdsUnlikeRows_1 : decode cX3_holdsUnlikeRows 1 = .ok (.iload_n 1, 1) := o_27 (bg_dX3_holdsUnlikeRows_0 1 27 rfl)
theorem dX3_holdsUnlikeRows_2 : decode cX3_holdsUnlikeRows 2 = .ok (.invokevirtual 29, 3) := o_182 (bg_dX3_holdsUnlikeRows_0 2 182 rfl) (bg_dX3_holdsUnlikeRows_0 3 0 rfl) (bg_dX3_holdsUnlikeRows_0 4 29 rfl)
theorem dX3_holdsUnlikeRows_5 : decode cX3_holdsUnlikeRows 5 = .ok (.ifCond .eq 30, 3) := o_153 (bg_dX3_holdsUnlikeRows_0 5 153 rfl) (bg_dX3_holdsUnlikeRows_0 6 0 rfl) (bg_dX3_holdsUnlikeRows_0 7 30 rfl) (by decide +kernel)
theorem dX3_holdsUnlikeRows_8 : decode cX3_holdsUnlikeRows 8 = .ok (.aload_n 0, 1) := o_42 (bg_dX3_holdsUnlikeRows_0 8 42 rfl)
theorem dX3_holdsUnlikeRows_9 : decode cX3_holdsUnlikeRows 9 = .ok (.iload_n 2, 1) := o_28 (bg_dX3_holdsUnlikeRows_0 9 28 rfl)
theorem dX3_holdsUnlikeRows_10 : decode cX3_holdsUnlikeRows 10 = .ok (.invokevirtual 29, 3) := o_182 (bg_dX3_holdsUnlikeRows_0 10 182 rfl) (bg_dX3_holdsUnlikeRows_0 11 0 rfl) (bg_dX3_holdsUnlikeRows_0 12 29 rfl)
theorem dX3_holdsUnlikeRows_13 : decode cX3_holdsUnlikeRows 13 = .ok (.ifCond .eq 22, 3) := o_153 (bg_dX3_holdsUnlikeRows_0 13 153 rfl) (bg_dX3_holdsUnlikeRows_0 14 0 rfl) (bg_dX3_holdsUnlikeRows_0 15 22 rfl) (by decide +kernel)
theorem dX3_holdsUnlikeRows_16 : decode cX3_holdsUnlikeRows 16 = .ok (.aload_n 0, 1) := o_42 (bg_dX3_holdsUnlikeRows_0 16 42 rfl)
theorem dX3_holdsUnlikeRows_17 : decode cX3_holdsUnlikeRows 17 = .ok (.getfield 9, 3) := o_180 (bg_dX3_holdsUnlikeRows_0 17 180 rfl) (bg_dX3_holdsUnlikeRows_0 18 0 rfl) (bg_dX3_holdsUnlikeRows_0 19 9 rfl)
theorem dX3_holdsUnlikeRows_20 : decode cX3_holdsUnlikeRows 20 = .ok (.iload_n 1, 1) := o_27 (bg_dX3_holdsUnlikeRows_0 20 27 rfl)
theorem dX3_holdsUnlikeRows_21 : decode cX3_holdsUnlikeRows 21 = .ok (.iaload, 1) := o_46 (bg_dX3_holdsUnlikeRows_0 21 46 rfl)
theorem dX3_holdsUnlikeRows_22 : decode cX3_holdsUnlikeRows 22 = .ok (.aload_n 0, 1) := o_42 (bg_dX3_holdsUnlikeRows_0 22 42 rfl)
theorem dX3_holdsUnlikeRows_23 : decode cX3_holdsUnlikeRows 23 = .ok (.getfield 9, 3) := o_180 (bg_dX3_holdsUnlikeRows_0 23 180 rfl) (bg_dX3_holdsUnlikeRows_0 24 0 rfl) (bg_dX3_holdsUnlikeRows_0 25 9 rfl)
theorem bg_dX3_holdsUnlikeRows_26 : bysAt cX3_holdsUnlikeRows 26 [28, 46, 159, 0, 7, 4, 167, 0, 4, 3, 172] := bysAt_of (by decide +kernel)
theorem dX3_holdsUnlikeRows_26 : decode cX3_holdsUnlikeRows 26 = .ok (.iload_n 2, 1) := o_28 (bg_dX3_holdsUnlikeRows_26 0 28 rfl)
theorem dX3_holdsUnlikeRows_27 : decode cX3_holdsUnlikeRows 27 = .ok (.iaload, 1) := o_46 (bg_dX3_holdsUnlikeRows_26 1 46 rfl)
theorem dX3_holdsUnlikeRows_28 : decode cX3_holdsUnlikeRows 28 = .ok (.if_icmp .eq 7, 3) := o_159 (bg_dX3_holdsUnlikeRows_26 2 159 rfl) (bg_dX3_holdsUnlikeRows_26 3 0 rfl) (bg_dX3_holdsUnlikeRows_26 4 7 rfl) (by decide +kernel)
theorem dX3_holdsUnlikeRows_31 : decode cX3_holdsUnlikeRows 31 = .ok (.iconst 1, 1) := o_4 (bg_dX3_holdsUnlikeRows_26 5 4 rfl)
theorem dX3_holdsUnlikeRows_32 : decode cX3_holdsUnlikeRows 32 = .ok (.goto 4, 3) := o_167 (bg_dX3_holdsUnlikeRows_26 6 167 rfl) (bg_dX3_holdsUnlikeRows_26 7 0 rfl) (bg_dX3_holdsUnlikeRows_26 8 4 rfl) (by decide +kernel)
theorem dX3_holdsUnlikeRows_35 : decode cX3_holdsUnlikeRows 35 = .ok (.iconst 0, 1) := o_3 (bg_dX3_holdsUnlikeRows_26 9 3 rfl)
theorem dX3_holdsUnlikeRows_36 : decode cX3_holdsUnlikeRows 36 = .ok (.ireturn, 1) := o_172 (bg_dX3_holdsUnlikeRows_26 10 172 rfl)
theorem bg_dX3_putBridge_0 : bysAt cX3_putBridge 0 [42, 180, 0, 9, 27, 28, 2, 160, 0, 7, 2, 167, 0, 7, 16, 10, 28, 96, 79, 42, 180, 0, 15] := bysAt_of (by decide +kernel)
theorem dX3_putBridge_0 : decode cX3_putBridge 0 = .ok (.aload_n 0, 1) := o_42 (bg_dX3_putBridge_0 0 42 rfl)
theorem dX3_putBridge_1 : decode cX3_putBridge 1 = .ok (.getfield 9, 3) := o_180 (bg_dX3_putBridge_0 1 180 rfl) (bg_dX3_putBridge_0 2 0 rfl) (bg_dX3_putBridge_0 3 9 rfl)
theorem dX3_putBridge_4 : decode cX3_putBridge 4 = .ok (.iload_n 1, 1) := o_27 (bg_dX3_putBridge_0 4 27 rfl)
theorem dX3_putBridge_5 : decode cX3_putBridge 5 = .ok (.iload_n 2, 1) := o_28 (bg_dX3_putBridge_0 5 28 rfl)
theorem dX3_putBridge_6 : decode cX3_putBridge 6 = .ok (.iconst (-1), 1) := o_2 (bg_dX3_putBridge_0 6 2 rfl)
theorem dX3_putBridge_7 : decode cX3_putBridge 7 = .ok (.if_icmp .ne 7, 3) := o_160 (bg_dX3_putBridge_0 7 160 rfl) (bg_dX3_putBridge_0 8 0 rfl) (bg_dX3_putBridge_0 9 7 rfl) (by decide +kernel)
theorem dX3_putBridge_10 : decode cX3_putBridge 10 = .ok (.iconst (-1), 1) := o_2 (bg_dX3_putBridge_0 10 2 rfl)
theorem dX3_putBridge_11 : decode cX3_putBridge 11 = .ok (.goto 7, 3) := o_167 (bg_dX3_putBridge_0 11 167 rfl) (bg_dX3_putBridge_0 12 0 rfl) (bg_dX3_putBridge_0 13 7 rfl) (by decide +kernel)
theorem dX3_putBridge_14 : decode cX3_putBridge 14 = .ok (.bipush 10, 2) := o_16 (bg_dX3_putBridge_0 14 16 rfl) (bg_dX3_putBridge_0 15 10 rfl) (by decide +kernel)
theorem dX3_putBridge_16 : decode cX3_putBridge 16 = .ok (.iload_n 2, 1) := o_28 (bg_dX3_putBridge_0 16 28 rfl)
theorem dX3_putBridge_17 : decode cX3_putBridge 17 = .ok (.iadd, 1) := o_96 (bg_dX3_putBridge_0 17 96 rfl)
theorem dX3_putBridge_18 : decode cX3_putBridge 18 = .ok (.iastore, 1) := o_79 (bg_dX3_putBridge_0 18 79 rfl)
theorem dX3_putBridge_19 : decode cX3_putBridge 19 = .ok (.aload_n 0, 1) := o_42 (bg_dX3_putBridge_0 19 42 rfl)
theorem dX3_putBridge_20 : decode cX3_putBridge 20 = .ok (.getfield 15, 3) := o_180 (bg_dX3_putBridge_0 20 180 rfl) (bg_dX3_putBridge_0 21 0 rfl) (bg_dX3_putBridge_0 22 15 rfl)
theorem bg_dX3_putBridge_23 : bysAt cX3_putBridge 23 [27, 3, 79, 177] := bysAt_of (by decide +kernel)
theorem dX3_putBridge_23 : decode cX3_putBridge 23 = .ok (.iload_n 1, 1) := o_27 (bg_dX3_putBridge_23 0 27 rfl)
theorem dX3_putBridge_24 : decode cX3_putBridge 24 = .ok (.iconst 0, 1) := o_3 (bg_dX3_putBridge_23 1 3 rfl)
theorem dX3_putBridge_25 : decode cX3_putBridge 25 = .ok (.iastore, 1) := o_79 (bg_dX3_putBridge_23 2 79 rfl)
theorem dX3_putBridge_26 : decode cX3_putBridge 26 = .ok (.return_, 1) := o_177 (bg_dX3_putBridge_23 3 177 rfl)
theorem bg_dX3_putElement_0 : bysAt cX3_putElement 0 [42, 180, 0, 18, 27, 16, 40, 104, 28, 96, 42, 180, 0, 9, 27, 46, 33, 184, 0, 40, 80] := bysAt_of (by decide +kernel)
theorem dX3_putElement_0 : decode cX3_putElement 0 = .ok (.aload_n 0, 1) := o_42 (bg_dX3_putElement_0 0 42 rfl)
theorem dX3_putElement_1 : decode cX3_putElement 1 = .ok (.getfield 18, 3) := o_180 (bg_dX3_putElement_0 1 180 rfl) (bg_dX3_putElement_0 2 0 rfl) (bg_dX3_putElement_0 3 18 rfl)
theorem dX3_putElement_4 : decode cX3_putElement 4 = .ok (.iload_n 1, 1) := o_27 (bg_dX3_putElement_0 4 27 rfl)
theorem dX3_putElement_5 : decode cX3_putElement 5 = .ok (.bipush 40, 2) := o_16 (bg_dX3_putElement_0 5 16 rfl) (bg_dX3_putElement_0 6 40 rfl) (by decide +kernel)
theorem dX3_putElement_7 : decode cX3_putElement 7 = .ok (.imul, 1) := o_104 (bg_dX3_putElement_0 7 104 rfl)
theorem dX3_putElement_8 : decode cX3_putElement 8 = .ok (.iload_n 2, 1) := o_28 (bg_dX3_putElement_0 8 28 rfl)
theorem dX3_putElement_9 : decode cX3_putElement 9 = .ok (.iadd, 1) := o_96 (bg_dX3_putElement_0 9 96 rfl)
theorem dX3_putElement_10 : decode cX3_putElement 10 = .ok (.aload_n 0, 1) := o_42 (bg_dX3_putElement_0 10 42 rfl)
theorem dX3_putElement_11 : decode cX3_putElement 11 = .ok (.getfield 9, 3) := o_180 (bg_dX3_putElement_0 11 180 rfl) (bg_dX3_putElement_0 12 0 rfl) (bg_dX3_putElement_0 13 9 rfl)
theorem dX3_putElement_14 : decode cX3_putElement 14 = .ok (.iload_n 1, 1) := o_27 (bg_dX3_putElement_0 14 27 rfl)
theorem dX3_putElement_15 : decode cX3_putElement 15 = .ok (.iaload, 1) := o_46 (bg_dX3_putElement_0 15 46 rfl)
theorem dX3_putElement_16 : decode cX3_putElement 16 = .ok (.lload_n 3, 1) := o_33 (bg_dX3_putElement_0 16 33 rfl)
theorem dX3_putElement_17 : decode cX3_putElement 17 = .ok (.invokestatic 40, 3) := o_184 (bg_dX3_putElement_0 17 184 rfl) (bg_dX3_putElement_0 18 0 rfl) (bg_dX3_putElement_0 19 40 rfl)
theorem dX3_putElement_20 : decode cX3_putElement 20 = .ok (.lastore, 1) := o_80 (bg_dX3_putElement_0 20 80 rfl)
theorem bg_dX3_putElement_21 : bysAt cX3_putElement 21 [177] := bysAt_of (by decide +kernel)
theorem dX3_putElement_21 : decode cX3_putElement 21 = .ok (.return_, 1) := o_177 (bg_dX3_putElement_21 0 177 rfl)
theorem bg_dX3_putRow_0 : bysAt cX3_putRow 0 [42, 180, 0, 9, 27, 28, 79, 42, 180, 0, 15, 27, 29, 79, 3, 54, 4, 21, 4, 29] := bysAt_of (by decide +kernel)
theorem dX3_putRow_0 : decode cX3_putRow 0 = .ok (.aload_n 0, 1) := o_42 (bg_dX3_putRow_0 0 42 rfl)
theorem dX3_putRow_1 : decode cX3_putRow 1 = .ok (.getfield 9, 3) := o_180 (bg_dX3_putRow_0 1 180 rfl) (bg_dX3_putRow_0 2 0 rfl) (bg_dX3_putRow_0 3 9 rfl)
theorem dX3_putRow_4 : decode cX3_putRow 4 = .ok (.iload_n 1, 1) := o_27 (bg_dX3_putRow_0 4 27 rfl)
theorem dX3_putRow_5 : decode cX3_putRow 5 = .ok (.iload_n 2, 1) := o_28 (bg_dX3_putRow_0 5 28 rfl)
theorem dX3_putRow_6 : decode cX3_putRow 6 = .ok (.iastore, 1) := o_79 (bg_dX3_putRow_0 6 79 rfl)
theorem dX3_putRow_7 : decode cX3_putRow 7 = .ok (.aload_n 0, 1) := o_42 (bg_dX3_putRow_0 7 42 rfl)
theorem dX3_putRow_8 : decode cX3_putRow 8 = .ok (.getfield 15, 3) := o_180 (bg_dX3_putRow_0 8 180 rfl) (bg_dX3_putRow_0 9 0 rfl) (bg_dX3_putRow_0 10 15 rfl)
theorem dX3_putRow_11 : decode cX3_putRow 11 = .ok (.iload_n 1, 1) := o_27 (bg_dX3_putRow_0 11 27 rfl)
theorem dX3_putRow_12 : decode cX3_putRow 12 = .ok (.iload_n 3, 1) := o_29 (bg_dX3_putRow_0 12 29 rfl)
theorem dX3_putRow_13 : decode cX3_putRow 13 = .ok (.iastore, 1) := o_79 (bg_dX3_putRow_0 13 79 rfl)
theorem dX3_putRow_14 : decode cX3_putRow 14 = .ok (.iconst 0, 1) := o_3 (bg_dX3_putRow_0 14 3 rfl)
theorem dX3_putRow_15 : decode cX3_putRow 15 = .ok (.istore 4, 2) := o_54 (bg_dX3_putRow_0 15 54 rfl) (bg_dX3_putRow_0 16 4 rfl)
theorem dX3_putRow_17 : decode cX3_putRow 17 = .ok (.iload 4, 2) := o_21 (bg_dX3_putRow_0 17 21 rfl) (bg_dX3_putRow_0 18 4 rfl)
theorem dX3_putRow_19 : decode cX3_putRow 19 = .ok (.iload_n 3, 1) := o_29 (bg_dX3_putRow_0 19 29 rfl)
theorem bg_dX3_putRow_20 : bysAt cX3_putRow 20 [162, 0, 22, 42, 180, 0, 18, 27, 16, 40, 104, 21, 4, 96, 9, 80, 132, 4, 1, 167, 255, 234, 177] := bysAt_of (by decide +kernel)
theorem dX3_putRow_20 : decode cX3_putRow 20 = .ok (.if_icmp .ge 22, 3) := o_162 (bg_dX3_putRow_20 0 162 rfl) (bg_dX3_putRow_20 1 0 rfl) (bg_dX3_putRow_20 2 22 rfl) (by decide +kernel)
theorem dX3_putRow_23 : decode cX3_putRow 23 = .ok (.aload_n 0, 1) := o_42 (bg_dX3_putRow_20 3 42 rfl)
theorem dX3_putRow_24 : decode cX3_putRow 24 = .ok (.getfield 18, 3) := o_180 (bg_dX3_putRow_20 4 180 rfl) (bg_dX3_putRow_20 5 0 rfl) (bg_dX3_putRow_20 6 18 rfl)
theorem dX3_putRow_27 : decode cX3_putRow 27 = .ok (.iload_n 1, 1) := o_27 (bg_dX3_putRow_20 7 27 rfl)
theorem dX3_putRow_28 : decode cX3_putRow 28 = .ok (.bipush 40, 2) := o_16 (bg_dX3_putRow_20 8 16 rfl) (bg_dX3_putRow_20 9 40 rfl) (by decide +kernel)
theorem dX3_putRow_30 : decode cX3_putRow 30 = .ok (.imul, 1) := o_104 (bg_dX3_putRow_20 10 104 rfl)
theorem dX3_putRow_31 : decode cX3_putRow 31 = .ok (.iload 4, 2) := o_21 (bg_dX3_putRow_20 11 21 rfl) (bg_dX3_putRow_20 12 4 rfl)
theorem dX3_putRow_33 : decode cX3_putRow 33 = .ok (.iadd, 1) := o_96 (bg_dX3_putRow_20 13 96 rfl)
theorem dX3_putRow_34 : decode cX3_putRow 34 = .ok (.lconst 0, 1) := o_9 (bg_dX3_putRow_20 14 9 rfl)
theorem dX3_putRow_35 : decode cX3_putRow 35 = .ok (.lastore, 1) := o_80 (bg_dX3_putRow_20 15 80 rfl)
theorem dX3_putRow_39 : decode cX3_putRow 39 = .ok (.goto (-22), 3) := o_167 (bg_dX3_putRow_20 19 167 rfl) (bg_dX3_putRow_20 20 255 rfl) (bg_dX3_putRow_20 21 234 rfl) (by decide +kernel)
theorem dX3_putRow_42 : decode cX3_putRow 42 = .ok (.return_, 1) := o_177 (bg_dX3_putRow_20 22 177 rfl)
theorem pdX3_asSort : yX3_asSort.cls ≠ "java/lang/invoke/MethodHandle" ∧ yX3_asSort.cls ≠ "java/lang/invoke/VarHandle" ∧ (parseMethodDescriptor yX3_asSort.desc).map (fun d => d.parameters.length) = some 2 := by decide +kernel
theorem pdVX3_holdsBridge : yX3_holdsBridge.cls = RX3 ∧ yX3_holdsBridge.cls ≠ "java/lang/invoke/MethodHandle" ∧ yX3_holdsBridge.cls ≠ "java/lang/invoke/VarHandle" ∧ (parseMethodDescriptor yX3_holdsBridge.desc).map (fun d => d.parameters.length) = some 1 := by decide +kernel
theorem pdVX3_holdsNothing : yX3_holdsNothing.cls = RX3 ∧ yX3_holdsNothing.cls ≠ "java/lang/invoke/MethodHandle" ∧ yX3_holdsNothing.cls ≠ "java/lang/invoke/VarHandle" ∧ (parseMethodDescriptor yX3_holdsNothing.desc).map (fun d => d.parameters.length) = some 1 := by decide +kernel
theorem pdVX3_holdsRow : yX3_holdsRow.cls = RX3 ∧ yX3_holdsRow.cls ≠ "java/lang/invoke/MethodHandle" ∧ yX3_holdsRow.cls ≠ "java/lang/invoke/VarHandle" ∧ (parseMethodDescriptor yX3_holdsRow.desc).map (fun d => d.parameters.length) = some 1 := by decide +kernel
theorem pdVX3_putBridge : yX3_putBridge.cls = RX3 ∧ yX3_putBridge.cls ≠ "java/lang/invoke/MethodHandle" ∧ yX3_putBridge.cls ≠ "java/lang/invoke/VarHandle" ∧ (parseMethodDescriptor yX3_putBridge.desc).map (fun d => d.parameters.length) = some 2 := by decide +kernel
theorem dX3_asSort_1 : decode cX3_asSort 1 = .ok (.tableswitch 61 0 4 #[35, 40, 45, 61, 49], 35) := by decide +kernel
theorem dX3_countHeld_18 : decode cX3_countHeld 18 = .ok (.iinc 1 1, 3) := by decide +kernel
theorem dX3_countHeld_21 : decode cX3_countHeld 21 = .ok (.iinc 2 1, 3) := by decide +kernel
theorem dX3_dropBridgesFrom_27 : decode cX3_dropBridgesFrom 27 = .ok (.iinc 2 1, 3) := by decide +kernel
theorem dX3_putRow_36 : decode cX3_putRow 36 = .ok (.iinc 4 1, 3) := by decide +kernel
set_option maxHeartbeats 4000000 in
set_option maxRecDepth 100000 in
theorem c_X3_holdsNothing (l : Launch) (D : va_G) (E : Nat → ClassId) (G : Nat → Nat) (a : Nat → Nat) (C : Nat → va_E) (hT : TyX a E C) (x1 : Int32) (hx1 : rg x1 0 7) : Met l yX3_holdsNothing (oh_w yX3_holdsNothing cX3_holdsNothing 2 (some .boolean)) ({ frames := 0, cells := 0, slots := 0, locals := 0 }) (oh_Pp D E G [.ref (a 4), .int x1] (oh_W 35 a C)) (vp_Si (fun r => (r = 0 ∨ r = 1))) 0 0 (fun _ => False) := by
  refine Met.ofW (cc := cX3_holdsNothing) (maxL := 2) (ret := (some .boolean)) (by decide) rfl ?_
  intro p e s m args below meth c s₁ B hml hv
  obtain ⟨rfl, hP, hK, hG⟩ := hv
  have hx := B.exec
  have hb := B.bytes
  have hr := B.returns
  have hts := atoms_spec (ws := (oh_w yX3_holdsNothing cX3_holdsNothing 2 (some .boolean))) B.pre
  have htg : ∀ w ∈ oh_t, w.before _ s = true := fun w h => hts w (List.mem_cons_of_mem _ h)
  have hown : s.vm.findClass RX3 = some m.cls := findClass_of_methodNamed B.named
  have hlocks := B.notSynchronized
  have hT0 := hT
  have hS : va_S (fun _ => False) s.heap s.heap [] := va_S.rf
  have hl := lv_entry ([.ref (a 4), .int x1]) (n := 2) (Nat.le_of_ble_eq_true rfl)
  rw [lg_entry_eq]
  generalize (lg_sl ([.ref (a 4), .int x1]) ++ List.replicate (2 - (lg_sl ([.ref (a 4), .int x1])).length) Slot.unset).toArray = ls at hl ⊢
  have hl : lv_has ls 2 [(0, .ref (a 4)), (1, .int x1)] := hl
  refine oh_genQ (fun Q hQ => ?_)
  refine lv_aload_n hx hb dX3_holdsNothing_0 rfl (lv_at hl 0 rfl) ?_
  refine va_get (D := D) (ci := 3) (v := .ref (a 29)) (C := RX3) (T := TX3) (N := 3) hx hb htg ig_3 hown hK hP 4 (oh_wg (by decide) (sX_4 hT)) rfl 0 (by decide) (htg _ q_198) (fun _ h9 => h9) rfl dX3_holdsNothing_1 ?_
  refine lv_iload_n hx hb dX3_holdsNothing_4 rfl (lv_at hl 1 rfl) ?_
  have n_1 : vp_in x1 8 := (rg_in hx1 (by decide))
  refine th_iald hx hb hK hP 29 (by decide) (sX_29 hT) n_1 dX3_holdsNothing_5 ?_
  refine lv_iconst (v := (-1)) hx hb dX3_holdsNothing_6 (by decide) ?_
  refine lv_icmp_ne (tgt := 14) hx hb dX3_holdsNothing_7 (by decide) (fun (c_2 : ¬ ((ga (C 29) (x1).toNatClampNeg) = (-1))) => ?_) (fun (c_2 : (ga (C 29) (x1).toNatClampNeg) = (-1)) => ?_)
  · refine lv_iconst (v := 0) hx hb dX3_holdsNothing_14 (by decide) ?_
    rw [hQ]
    exact W.zret (v := 0) (ty := .boolean) hx hb hr (by decide) (fun t ht hW => ⟨0, rfl, (Or.inl rfl), ht⟩) (fun q h => by cases h) dX3_holdsNothing_15
  · refine lv_iconst (v := 1) hx hb dX3_holdsNothing_10 (by decide) ?_
    refine lv_goto (tgt := 15) hx hb dX3_holdsNothing_11 (by decide) ?_
    rw [hQ]
    exact W.zret (v := 1) (ty := .boolean) hx hb hr (by decide) (fun t ht hW => ⟨1, rfl, (Or.inr rfl), ht⟩) (fun q h => by cases h) dX3_holdsNothing_15

set_option maxHeartbeats 4000000 in
set_option maxRecDepth 100000 in
theorem c_X3_holdsBridge (l : Launch) (D : va_G) (E : Nat → ClassId) (G : Nat → Nat) (a : Nat → Nat) (C : Nat → va_E) (hT : TyX a E C) (x1 : Int32) (hx1 : rg x1 0 7) : Met l yX3_holdsBridge (oh_w yX3_holdsBridge cX3_holdsBridge 2 (some .boolean)) ({ frames := 0, cells := 0, slots := 0, locals := 0 }) (oh_Pp D E G [.ref (a 4), .int x1] (oh_W 35 a C)) (vp_Si (fun r => (r = 0 ∨ r = 1))) 0 0 (fun _ => False) := by
  refine Met.ofW (cc := cX3_holdsBridge) (maxL := 2) (ret := (some .boolean)) (by decide) rfl ?_
  intro p e s m args below meth c s₁ B hml hv
  obtain ⟨rfl, hP, hK, hG⟩ := hv
  have hx := B.exec
  have hb := B.bytes
  have hr := B.returns
  have hts := atoms_spec (ws := (oh_w yX3_holdsBridge cX3_holdsBridge 2 (some .boolean))) B.pre
  have htg : ∀ w ∈ oh_t, w.before _ s = true := fun w h => hts w (List.mem_cons_of_mem _ h)
  have hown : s.vm.findClass RX3 = some m.cls := findClass_of_methodNamed B.named
  have hlocks := B.notSynchronized
  have hT0 := hT
  have hS : va_S (fun _ => False) s.heap s.heap [] := va_S.rf
  have hl := lv_entry ([.ref (a 4), .int x1]) (n := 2) (Nat.le_of_ble_eq_true rfl)
  rw [lg_entry_eq]
  generalize (lg_sl ([.ref (a 4), .int x1]) ++ List.replicate (2 - (lg_sl ([.ref (a 4), .int x1])).length) Slot.unset).toArray = ls at hl ⊢
  have hl : lv_has ls 2 [(0, .ref (a 4)), (1, .int x1)] := hl
  refine oh_genQ (fun Q hQ => ?_)
  refine lv_aload_n hx hb dX3_holdsBridge_0 rfl (lv_at hl 0 rfl) ?_
  refine va_get (D := D) (ci := 3) (v := .ref (a 29)) (C := RX3) (T := TX3) (N := 3) hx hb htg ig_3 hown hK hP 4 (oh_wg (by decide) (sX_4 hT)) rfl 0 (by decide) (htg _ q_198) (fun _ h9 => h9) rfl dX3_holdsBridge_1 ?_
  refine lv_iload_n hx hb dX3_holdsBridge_4 rfl (lv_at hl 1 rfl) ?_
  have n_1 : vp_in x1 8 := (rg_in hx1 (by decide))
  refine th_iald hx hb hK hP 29 (by decide) (sX_29 hT) n_1 dX3_holdsBridge_5 ?_
  refine lv_bipush (v := 10) hx hb dX3_holdsBridge_6 (by decide) ?_
  refine lv_icmp_lt (tgt := 15) hx hb dX3_holdsBridge_8 (by decide) (fun (c_2 : (ga (C 29) (x1).toNatClampNeg) < 10) => ?_) (fun (c_2 : ¬ ((ga (C 29) (x1).toNatClampNeg) < 10)) => ?_)
  · refine lv_iconst (v := 0) hx hb dX3_holdsBridge_15 (by decide) ?_
    rw [hQ]
    exact W.zret (v := 0) (ty := .boolean) hx hb hr (by decide) (fun t ht hW => ⟨0, rfl, (Or.inl rfl), ht⟩) (fun q h => by cases h) dX3_holdsBridge_16
  · refine lv_iconst (v := 1) hx hb dX3_holdsBridge_11 (by decide) ?_
    refine lv_goto (tgt := 16) hx hb dX3_holdsBridge_12 (by decide) ?_
    rw [hQ]
    exact W.zret (v := 1) (ty := .boolean) hx hb hr (by decide) (fun t ht hW => ⟨1, rfl, (Or.inr rfl), ht⟩) (fun q h => by cases h) dX3_holdsBridge_16

set_option maxHeartbeats 4000000 in
set_option maxRecDepth 100000 in
theorem c_X3_holdsRow (l : Launch) (D : va_G) (E : Nat → ClassId) (G : Nat → Nat) (a : Nat → Nat) (C : Nat → va_E) (hT : TyX a E C) (x1 : Int32) (hx1 : rg x1 0 7) : Met l yX3_holdsRow (oh_w yX3_holdsRow cX3_holdsRow 2 (some .boolean)) ({ frames := 1, cells := 0, slots := 0, locals := 21 }) (oh_Pp D E G [.ref (a 4), .int x1] (oh_W 35 a C)) (vp_Si (fun r => (r = 0 ∨ r = 1))) 0 0 (fun _ => False) := by
  refine Met.ofW (cc := cX3_holdsRow) (maxL := 2) (ret := (some .boolean)) (by decide) rfl ?_
  intro p e s m args below meth c s₁ B hml hv
  obtain ⟨rfl, hP, hK, hG⟩ := hv
  have hx := B.exec
  have hb := B.bytes
  have hr := B.returns
  have hts := atoms_spec (ws := (oh_w yX3_holdsRow cX3_holdsRow 2 (some .boolean))) B.pre
  have htg : ∀ w ∈ oh_t, w.before _ s = true := fun w h => hts w (List.mem_cons_of_mem _ h)
  have hown : s.vm.findClass RX3 = some m.cls := findClass_of_methodNamed B.named
  have hlocks := B.notSynchronized
  have hT0 := hT
  have hS : va_S (fun _ => False) s.heap s.heap [] := va_S.rf
  have hl := lv_entry ([.ref (a 4), .int x1]) (n := 2) (Nat.le_of_ble_eq_true rfl)
  rw [lg_entry_eq]
  generalize (lg_sl ([.ref (a 4), .int x1]) ++ List.replicate (2 - (lg_sl ([.ref (a 4), .int x1])).length) Slot.unset).toArray = ls at hl ⊢
  have hl : lv_has ls 2 [(0, .ref (a 4)), (1, .int x1)] := hl
  refine oh_genQ (fun Q hQ => ?_)
  refine lv_aload_n hx hb dX3_holdsRow_0 rfl (lv_at hl 0 rfl) ?_
  refine lv_iload_n hx hb dX3_holdsRow_1 rfl (lv_at hl 1 rfl) ?_
  refine tq_V (As := [.int x1]) (rest := []) (ws := (oh_W 35 a C)) ⟨hx, hb, hml, hown, htg⟩ (c_X3_holdsNothing l D E G a C hT x1 (rg_w hx1 (by decide))) (cwV 1 htg (oh_gV q_339 q_317 q_318 q_70 q_319) rfl rfl rfl pdVX3_holdsNothing ⟨Nat.le_of_ble_eq_true rfl, Nat.le_of_ble_eq_true rfl⟩) hK hP hG hS (va_recv hK hP (ci := 3) (q0 := 4) rfl (oh_wg (by decide) (sX_4 hT))) rfl hl.1 rfl (Nat.le_of_ble_eq_true rfl) dX3_holdsRow_2 ⟨Nat.le_of_ble_eq_true rfl, Nat.le_of_ble_eq_true rfl⟩ (fun r_1 hq_2 => ?_)
  refine lv_if_ne (tgt := 20) hx hb dX3_holdsRow_5 (by decide) (fun (c_3 : ¬ (r_1 = 0)) => ?_) (fun (c_3 : r_1 = 0) => ?_)
  · refine lv_iconst (v := 0) hx hb dX3_holdsRow_20 (by decide) ?_
    rw [hQ]
    exact W.zret (v := 0) (ty := .boolean) hx hb hr (by decide) (fun t ht hW => ⟨0, rfl, (Or.inl rfl), ht⟩) (fun q h => by cases h) dX3_holdsRow_21
  · refine lv_aload_n hx hb dX3_holdsRow_8 rfl (lv_at hl 0 rfl) ?_
    refine lv_iload_n hx hb dX3_holdsRow_9 rfl (lv_at hl 1 rfl) ?_
    refine tq_V (As := [.int x1]) (rest := []) (ws := (oh_W 35 a C)) ⟨hx, hb, hml, hown, htg⟩ (c_X3_holdsBridge l D E G a C hT x1 (rg_w hx1 (by decide))) (cwV 1 htg (oh_gV q_340 q_313 q_314 q_70 q_315) rfl rfl rfl pdVX3_holdsBridge ⟨Nat.le_of_ble_eq_true rfl, Nat.le_of_ble_eq_true rfl⟩) hK hP hG hS (va_recv hK hP (ci := 3) (q0 := 4) rfl (oh_wg (by decide) (sX_4 hT))) rfl hl.1 rfl (Nat.le_of_ble_eq_true rfl) dX3_holdsRow_10 ⟨Nat.le_of_ble_eq_true rfl, Nat.le_of_ble_eq_true rfl⟩ (fun r_4 hq_5 => ?_)
    refine lv_if_ne (tgt := 20) hx hb dX3_holdsRow_13 (by decide) (fun (c_6 : ¬ (r_4 = 0)) => ?_) (fun (c_6 : r_4 = 0) => ?_)
    · refine lv_iconst (v := 0) hx hb dX3_holdsRow_20 (by decide) ?_
      rw [hQ]
      exact W.zret (v := 0) (ty := .boolean) hx hb hr (by decide) (fun t ht hW => ⟨0, rfl, (Or.inl rfl), ht⟩) (fun q h => by cases h) dX3_holdsRow_21
    · refine lv_iconst (v := 1) hx hb dX3_holdsRow_16 (by decide) ?_
      refine lv_goto (tgt := 21) hx hb dX3_holdsRow_17 (by decide) ?_
      rw [hQ]
      exact W.zret (v := 1) (ty := .boolean) hx hb hr (by decide) (fun t ht hW => ⟨1, rfl, (Or.inr rfl), ht⟩) (fun q h => by cases h) dX3_holdsRow_21

set_option maxHeartbeats 4000000 in
set_option maxRecDepth 100000 in
theorem c_X3_holdsUnlikeRows (l : Launch) (D : va_G) (E : Nat → ClassId) (G : Nat → Nat) (a : Nat → Nat) (C : Nat → va_E) (hT : TyX a E C) (x1 : Int32) (x2 : Int32) (hx1 : rg x1 0 7) (hx2 : rg x2 0 7) : Met l yX3_holdsUnlikeRows (oh_w yX3_holdsUnlikeRows cX3_holdsUnlikeRows 3 (some .boolean)) ({ frames := 2, cells := 0, slots := 0, locals := 42 }) (oh_Pp D E G [.ref (a 4), .int x1, .int x2] (oh_W 35 a C)) (vp_Si (fun r => (r = 0 ∨ r = 1))) 0 0 (fun _ => False) := by
  refine Met.ofW (cc := cX3_holdsUnlikeRows) (maxL := 3) (ret := (some .boolean)) (by decide) rfl ?_
  intro p e s m args below meth c s₁ B hml hv
  obtain ⟨rfl, hP, hK, hG⟩ := hv
  have hx := B.exec
  have hb := B.bytes
  have hr := B.returns
  have hts := atoms_spec (ws := (oh_w yX3_holdsUnlikeRows cX3_holdsUnlikeRows 3 (some .boolean))) B.pre
  have htg : ∀ w ∈ oh_t, w.before _ s = true := fun w h => hts w (List.mem_cons_of_mem _ h)
  have hown : s.vm.findClass RX3 = some m.cls := findClass_of_methodNamed B.named
  have hlocks := B.notSynchronized
  have hT0 := hT
  have hS : va_S (fun _ => False) s.heap s.heap [] := va_S.rf
  have hl := lv_entry ([.ref (a 4), .int x1, .int x2]) (n := 3) (Nat.le_of_ble_eq_true rfl)
  rw [lg_entry_eq]
  generalize (lg_sl ([.ref (a 4), .int x1, .int x2]) ++ List.replicate (3 - (lg_sl ([.ref (a 4), .int x1, .int x2])).length) Slot.unset).toArray = ls at hl ⊢
  have hl : lv_has ls 3 [(0, .ref (a 4)), (1, .int x1), (2, .int x2)] := hl
  refine oh_genQ (fun Q hQ => ?_)
  refine lv_aload_n hx hb dX3_holdsUnlikeRows_0 rfl (lv_at hl 0 rfl) ?_
  refine lv_iload_n hx hb dX3_holdsUnlikeRows_1 rfl (lv_at hl 1 rfl) ?_
  refine tq_V (As := [.int x1]) (rest := []) (ws := (oh_W 35 a C)) ⟨hx, hb, hml, hown, htg⟩ (c_X3_holdsRow l D E G a C hT x1 (rg_w hx1 (by decide))) (cwV 1 htg (oh_gV q_335 q_336 q_337 q_70 q_338) rfl rfl rfl pdVX3_holdsRow ⟨Nat.le_of_ble_eq_true rfl, Nat.le_of_ble_eq_true rfl⟩) hK hP hG hS (va_recv hK hP (ci := 3) (q0 := 4) rfl (oh_wg (by decide) (sX_4 hT))) rfl hl.1 rfl (Nat.le_of_ble_eq_true rfl) dX3_holdsUnlikeRows_2 ⟨Nat.le_of_ble_eq_true rfl, Nat.le_of_ble_eq_true rfl⟩ (fun r_1 hq_2 => ?_)
  refine lv_if_eq (tgt := 35) hx hb dX3_holdsUnlikeRows_5 (by decide) (fun (c_3 : r_1 = 0) => ?_) (fun (c_3 : ¬ (r_1 = 0)) => ?_)
  · refine lv_iconst (v := 0) hx hb dX3_holdsUnlikeRows_35 (by decide) ?_
    rw [hQ]
    exact W.zret (v := 0) (ty := .boolean) hx hb hr (by decide) (fun t ht hW => ⟨0, rfl, (Or.inl rfl), ht⟩) (fun q h => by cases h) dX3_holdsUnlikeRows_36
  · refine lv_aload_n hx hb dX3_holdsUnlikeRows_8 rfl (lv_at hl 0 rfl) ?_
    refine lv_iload_n hx hb dX3_holdsUnlikeRows_9 rfl (lv_at hl 2 rfl) ?_
    refine tq_V (As := [.int x2]) (rest := []) (ws := (oh_W 35 a C)) ⟨hx, hb, hml, hown, htg⟩ (c_X3_holdsRow l D E G a C hT x2 (rg_w hx2 (by decide))) (cwV 1 htg (oh_gV q_335 q_336 q_337 q_70 q_338) rfl rfl rfl pdVX3_holdsRow ⟨Nat.le_of_ble_eq_true rfl, Nat.le_of_ble_eq_true rfl⟩) hK hP hG hS (va_recv hK hP (ci := 3) (q0 := 4) rfl (oh_wg (by decide) (sX_4 hT))) rfl hl.1 rfl (Nat.le_of_ble_eq_true rfl) dX3_holdsUnlikeRows_10 ⟨Nat.le_of_ble_eq_true rfl, Nat.le_of_ble_eq_true rfl⟩ (fun r_4 hq_5 => ?_)
    refine lv_if_eq (tgt := 35) hx hb dX3_holdsUnlikeRows_13 (by decide) (fun (c_6 : r_4 = 0) => ?_) (fun (c_6 : ¬ (r_4 = 0)) => ?_)
    · refine lv_iconst (v := 0) hx hb dX3_holdsUnlikeRows_35 (by decide) ?_
      rw [hQ]
      exact W.zret (v := 0) (ty := .boolean) hx hb hr (by decide) (fun t ht hW => ⟨0, rfl, (Or.inl rfl), ht⟩) (fun q h => by cases h) dX3_holdsUnlikeRows_36
    · refine lv_aload_n hx hb dX3_holdsUnlikeRows_16 rfl (lv_at hl 0 rfl) ?_
      refine va_get (D := D) (ci := 3) (v := .ref (a 29)) (C := RX3) (T := TX3) (N := 3) hx hb htg ig_3 hown hK hP 4 (oh_wg (by decide) (sX_4 hT)) rfl 0 (by decide) (htg _ q_198) (fun _ h9 => h9) rfl dX3_holdsUnlikeRows_17 ?_
      refine lv_iload_n hx hb dX3_holdsUnlikeRows_20 rfl (lv_at hl 1 rfl) ?_
      have n_7 : vp_in x1 8 := (rg_in hx1 (by decide))
      refine th_iald hx hb hK hP 29 (by decide) (sX_29 hT) n_7 dX3_holdsUnlikeRows_21 ?_
      refine lv_aload_n hx hb dX3_holdsUnlikeRows_22 rfl (lv_at hl 0 rfl) ?_
      refine va_get (D := D) (ci := 3) (v := .ref (a 29)) (C := RX3) (T := TX3) (N := 3) hx hb htg ig_3 hown hK hP 4 (oh_wg (by decide) (sX_4 hT)) rfl 0 (by decide) (htg _ q_198) (fun _ h9 => h9) rfl dX3_holdsUnlikeRows_23 ?_
      refine lv_iload_n hx hb dX3_holdsUnlikeRows_26 rfl (lv_at hl 2 rfl) ?_
      have n_8 : vp_in x2 8 := (rg_in hx2 (by decide))
      refine th_iald hx hb hK hP 29 (by decide) (sX_29 hT) n_8 dX3_holdsUnlikeRows_27 ?_
      refine lv_icmp_eq (tgt := 35) hx hb dX3_holdsUnlikeRows_28 (by decide) (fun (c_9 : (ga (C 29) (x1).toNatClampNeg) = (ga (C 29) (x2).toNatClampNeg)) => ?_) (fun (c_9 : ¬ ((ga (C 29) (x1).toNatClampNeg) = (ga (C 29) (x2).toNatClampNeg))) => ?_)
      · refine lv_iconst (v := 0) hx hb dX3_holdsUnlikeRows_35 (by decide) ?_
        rw [hQ]
        exact W.zret (v := 0) (ty := .boolean) hx hb hr (by decide) (fun t ht hW => ⟨0, rfl, (Or.inl rfl), ht⟩) (fun q h => by cases h) dX3_holdsUnlikeRows_36
      · refine lv_iconst (v := 1) hx hb dX3_holdsUnlikeRows_31 (by decide) ?_
        refine lv_goto (tgt := 36) hx hb dX3_holdsUnlikeRows_32 (by decide) ?_
        rw [hQ]
        exact W.zret (v := 1) (ty := .boolean) hx hb hr (by decide) (fun t ht hW => ⟨1, rfl, (Or.inr rfl), ht⟩) (fun q h => by cases h) dX3_holdsUnlikeRows_36

set_option maxHeartbeats 4000000 in
set_option maxRecDepth 100000 in
theorem c_X3_countHeld (l : Launch) (D : va_G) (E : Nat → ClassId) (G : Nat → Nat) (a : Nat → Nat) (C : Nat → va_E) (hT : TyX a E C) : Met l yX3_countHeld (oh_w yX3_countHeld cX3_countHeld 3 (some .int)) ({ frames := 1, cells := 0, slots := 0, locals := 21 }) (oh_Pp D E G [.ref (a 4)] (oh_W 35 a C)) (vp_Si (fun r => True)) 0 0 (fun _ => False) := by
  refine Met.ofW (cc := cX3_countHeld) (maxL := 3) (ret := (some .int)) (by decide) rfl ?_
  intro p e s m args below meth c s₁ B hml hv
  obtain ⟨rfl, hP, hK, hG⟩ := hv
  have hx := B.exec
  have hb := B.bytes
  have hr := B.returns
  have hts := atoms_spec (ws := (oh_w yX3_countHeld cX3_countHeld 3 (some .int))) B.pre
  have htg : ∀ w ∈ oh_t, w.before _ s = true := fun w h => hts w (List.mem_cons_of_mem _ h)
  have hown : s.vm.findClass RX3 = some m.cls := findClass_of_methodNamed B.named
  have hlocks := B.notSynchronized
  have hT0 := hT
  have hS : va_S (fun _ => False) s.heap s.heap [] := va_S.rf
  have hl := lv_entry ([.ref (a 4)]) (n := 3) (Nat.le_of_ble_eq_true rfl)
  rw [lg_entry_eq]
  generalize (lg_sl ([.ref (a 4)]) ++ List.replicate (3 - (lg_sl ([.ref (a 4)])).length) Slot.unset).toArray = ls at hl ⊢
  have hl : lv_has ls 3 [(0, .ref (a 4))] := hl
  refine oh_genQ (fun Q hQ => ?_)
  refine lv_iconst (v := 0) hx hb dX3_countHeld_0 (by decide) ?_
  refine lv_istore_n (lv' := [(1, .int 0), (0, .ref (a 4))]) hx hb dX3_countHeld_1 rfl hl (by decide) rfl (fun ls hl => ?_)
  refine lv_iconst (v := 0) hx hb dX3_countHeld_2 (by decide) ?_
  refine lv_istore_n (lv' := [(2, .int 0), (1, .int 0), (0, .ref (a 4))]) hx hb dX3_countHeld_3 rfl hl (by decide) rfl (fun ls hl => ?_)
  have L_4 : ∀ (d : Nat) (z4_2 : Int32) (z4_1 : Int32) (ls : Array Slot), (8 - z4_2.toInt).toNat = d → rg z4_2 0 8 → lv_has ls 3 [(2, .int z4_2), (1, .int z4_1), (0, .ref (a 4))] → W p l e ({ frames := 1, cells := 0, slots := 0, locals := 21 }) s m (([.ref (a 4)] : List Value).toArray) below meth c s.heap [] 0 0 Q (F0 m 4 ls []) := by
    intro d
    induction d using Nat.strongRecOn with
    | ind d ih_4 =>
    intro z4_2 z4_1 ls hd_4 hz4_2 hl
    refine lv_iload_n hx hb dX3_countHeld_4 rfl (lv_at hl 0 rfl) ?_
    refine lv_bipush (v := 8) hx hb dX3_countHeld_5 (by decide) ?_
    refine lv_icmp_ge (tgt := 27) hx hb dX3_countHeld_7 (by decide) (fun (c_1 : (8 : Int32) ≤ z4_2) => ?_) (fun (c_1 : ¬ ((8 : Int32) ≤ z4_2)) => ?_)
    · refine lv_iload_n hx hb dX3_countHeld_27 rfl (lv_at hl 1 rfl) ?_
      rw [hQ]
      exact W.iret (v := z4_1) hx hb hr (fun t ht hW => ⟨z4_1, rfl, trivial, ht⟩) (fun q h => by cases h) dX3_countHeld_28
    · refine lv_aload_n hx hb dX3_countHeld_10 rfl (lv_at hl 2 rfl) ?_
      refine lv_iload_n hx hb dX3_countHeld_11 rfl (lv_at hl 0 rfl) ?_
      refine tq_V (As := [.int z4_2]) (rest := []) (ws := (oh_W 35 a C)) ⟨hx, hb, hml, hown, htg⟩ (c_X3_holdsNothing l D E G a C hT z4_2 (rg_w (rn_ltu (u' := 7) (Int32.not_le.mp c_1) hz4_2 (rg_c (v := 8) (lo := 8) (hi := 8) (by decide)) (by decide)) (by decide))) (cwV 1 htg (oh_gV q_339 q_317 q_318 q_70 q_319) rfl rfl rfl pdVX3_holdsNothing ⟨Nat.le_of_ble_eq_true rfl, Nat.le_of_ble_eq_true rfl⟩) hK hP hG hS (va_recv hK hP (ci := 3) (q0 := 4) rfl (oh_wg (by decide) (sX_4 hT))) rfl hl.1 rfl (Nat.le_of_ble_eq_true rfl) dX3_countHeld_12 ⟨Nat.le_of_ble_eq_true rfl, Nat.le_of_ble_eq_true rfl⟩ (fun r_2 hq_3 => ?_)
      refine lv_if_ne (tgt := 21) hx hb dX3_countHeld_15 (by decide) (fun (c_4 : ¬ (r_2 = 0)) => ?_) (fun (c_4 : r_2 = 0) => ?_)
      · refine lv_iinc (v := z4_2 + 1) (lv' := [(2, .int (z4_2 + 1)), (1, .int z4_1), (0, .ref (a 4))]) hx hb dX3_countHeld_21 hl (k := 0) rfl (by rfl) (by decide) rfl (fun ls hl => ?_)
        refine lv_goto (tgt := 4) hx hb dX3_countHeld_24 (by decide) ?_
        exact ih_4 _ (hd_4 ▸ mu_up 8 (rn_ltu (u' := 7) (Int32.not_le.mp c_1) hz4_2 (rg_c (v := 8) (lo := 8) (hi := 8) (by decide)) (by decide)) (by decide)) (z4_2 + 1) z4_1 ls rfl (rg_w (rg_add (lo := 1) (hi := 8) (rn_ltu (u' := 7) (Int32.not_le.mp c_1) hz4_2 (rg_c (v := 8) (lo := 8) (hi := 8) (by decide)) (by decide)) (rg_c (v := 1) (lo := 1) (hi := 1) (by decide)) (by decide)) (by decide)) (lv_sub hl [0, 1, 2] rfl)
      · refine lv_iinc (v := z4_1 + 1) (lv' := [(1, .int (z4_1 + 1)), (2, .int z4_2), (0, .ref (a 4))]) hx hb dX3_countHeld_18 hl (k := 1) rfl (by rfl) (by decide) rfl (fun ls hl => ?_)
        refine lv_iinc (v := z4_2 + 1) (lv' := [(2, .int (z4_2 + 1)), (1, .int (z4_1 + 1)), (0, .ref (a 4))]) hx hb dX3_countHeld_21 hl (k := 1) rfl (by rfl) (by decide) rfl (fun ls hl => ?_)
        refine lv_goto (tgt := 4) hx hb dX3_countHeld_24 (by decide) ?_
        exact ih_4 _ (hd_4 ▸ mu_up 8 (rn_ltu (u' := 7) (Int32.not_le.mp c_1) hz4_2 (rg_c (v := 8) (lo := 8) (hi := 8) (by decide)) (by decide)) (by decide)) (z4_2 + 1) (z4_1 + 1) ls rfl (rg_w (rg_add (lo := 1) (hi := 8) (rn_ltu (u' := 7) (Int32.not_le.mp c_1) hz4_2 (rg_c (v := 8) (lo := 8) (hi := 8) (by decide)) (by decide)) (rg_c (v := 1) (lo := 1) (hi := 1) (by decide)) (by decide)) (by decide)) (lv_sub hl [0, 1, 2] rfl)
  exact L_4 _ 0 0 ls rfl (rg_w (rg_c (v := 0) (lo := 0) (hi := 0) (by decide)) (by decide)) (lv_sub hl [0, 1, 2] rfl)

set_option maxHeartbeats 4000000 in
set_option maxRecDepth 100000 in
theorem c_X3_putRow (l : Launch) (D : va_G) (E : Nat → ClassId) (G : Nat → Nat) (sz : Nat) (a : Nat → Nat) (C : Nat → va_E) (hT : TyX a E C) (x1 : Int32) (x2 : Int32) (x3 : Int32) (hx1 : rg x1 0 7) (hx3 : rg x3 0 40) : Met l yX3_putRow (oh_w yX3_putRow cX3_putRow 5 none) ({ frames := 0, cells := 0, slots := 0, locals := 0 }) (oh_Pm D E G [.ref (a 4), .int x1, .int x2, .int x3] (oh_W 35 a C) sz) (va_Qv (fun (u : Nat → va_E) => TyX a E u ∧ fr [(29, 32)] [] C u ∧ True) (oh_B D (va_A (oh_W 35 a C) sz) (fun u => oh_W 35 a u)) (va_A (oh_W 35 a C) sz)) 0 0 (va_A (oh_W 35 a C) sz) := by
  refine Met.ofW (cc := cX3_putRow) (maxL := 5) (ret := none) (by decide) rfl ?_
  intro p e s m args below meth c s₁ B hml hv
  obtain ⟨rfl, hsz, hP, hK, hD0, hG⟩ := hv
  have hx := B.exec
  have hb := B.bytes
  have hr := B.returns
  have hts := atoms_spec (ws := (oh_w yX3_putRow cX3_putRow 5 none)) B.pre
  have htg : ∀ w ∈ oh_t, w.before _ s = true := fun w h => hts w (List.mem_cons_of_mem _ h)
  have hown : s.vm.findClass RX3 = some m.cls := findClass_of_methodNamed B.named
  have hlocks := B.notSynchronized
  have hT0 := hT
  subst hsz
  have hD := hD0.self (sz := s.heap.size)
  generalize hAe : va_A (oh_W 35 a C) s.heap.size = A at hD hG ⊢
  have hA : ∀ q : Nat, s.heap.size ≤ q → A q := fun q h => by rw [← hAe]; exact Or.inr h
  have hS : va_S A s.heap s.heap [] := va_S.rf
  have hF : fr [(29, 32)] [] C C := fr_rf
  have hl := lv_entry ([.ref (a 4), .int x1, .int x2, .int x3]) (n := 5) (Nat.le_of_ble_eq_true rfl)
  rw [lg_entry_eq]
  generalize (lg_sl ([.ref (a 4), .int x1, .int x2, .int x3]) ++ List.replicate (5 - (lg_sl ([.ref (a 4), .int x1, .int x2, .int x3])).length) Slot.unset).toArray = ls at hl ⊢
  have hl : lv_has ls 5 [(0, .ref (a 4)), (1, .int x1), (2, .int x2), (3, .int x3)] := hl
  refine oh_genQ (fun Q hQ => ?_)
  refine lv_aload_n hx hb dX3_putRow_0 rfl (lv_at hl 0 rfl) ?_
  refine va_get (D := D) (ci := 3) (v := .ref (a 29)) (C := RX3) (T := TX3) (N := 3) hx hb htg ig_3 hown hK hP 4 (oh_wg (by decide) (sX_4 hT)) rfl 0 (by decide) (htg _ q_198) (fun _ h9 => h9) rfl dX3_putRow_1 ?_
  refine lv_iload_n hx hb dX3_putRow_4 rfl (lv_at hl 1 rfl) ?_
  refine lv_iload_n hx hb dX3_putRow_5 rfl (lv_at hl 2 rfl) ?_
  have n_1 : vp_in x1 8 := (rg_in hx1 (by decide))
  refine th_iast (T := TyX a E) (Rl := fr [(29, 32)] [] C) hx hb hK hP hD hS 29 (by decide) (sX_29 hT) n_1 (hT.up 29 (tA_upd (tX_29 hT) tA_any)) (fr_st hF (by decide) (by decide)) dX3_putRow_6 (fun C_2 H locs e_3 hT hF hP hD hS => ?_)
  have t_4 := hT
  refine lv_aload_n hx hb dX3_putRow_7 rfl (lv_at hl 0 rfl) ?_
  refine va_get (D := D) (ci := 3) (v := .ref (a 30)) (C := RX3) (T := TX3) (N := 3) hx hb htg ig_3 hown hK hP 4 (oh_wg (by decide) (sX_4 hT)) rfl 1 (by decide) (htg _ q_200) (fun _ h9 => h9) rfl dX3_putRow_8 ?_
  refine lv_iload_n hx hb dX3_putRow_11 rfl (lv_at hl 1 rfl) ?_
  refine lv_iload_n hx hb dX3_putRow_12 rfl (lv_at hl 3 rfl) ?_
  have n_5 : vp_in x1 8 := (rg_in hx1 (by decide))
  refine th_iast (T := TyX a E) (Rl := fr [(29, 32)] [] C) hx hb hK hP hD hS 30 (by decide) (sX_30 hT) n_5 (hT.up 30 (tA_upd (tX_30 hT) (tA_stc (Nat.mod_one _) hx3 (by decide)))) (fr_st hF (by decide) (by decide)) dX3_putRow_13 (fun C_6 H locs e_7 hT hF hP hD hS => ?_)
  have t_8 := hT
  refine lv_iconst (v := 0) hx hb dX3_putRow_14 (by decide) ?_
  refine lv_istore (lv' := [(4, .int 0), (0, .ref (a 4)), (1, .int x1), (2, .int x2), (3, .int x3)]) hx hb dX3_putRow_15 hl (by decide) rfl (fun ls hl => ?_)
  have L_17 : ∀ (d : Nat) (K17 : Nat → va_E) (z17_4 : Int32) (H : Heap) (locs : List Loc) (ls : Array Slot), (40 - z17_4.toInt).toNat = d → rg z17_4 0 40 → TyX a E K17 → fr [(29, 32)] [] C K17 → fr [(31, 32)] [] C_6 K17 → va_P D vwCl (oh_W 35 a K17) H → va_D A (oh_W 35 a K17) → va_S A s.heap H locs → lv_has ls 5 [(4, .int z17_4), (0, .ref (a 4)), (1, .int x1), (2, .int x2), (3, .int x3)] → W p l e ({ frames := 0, cells := 0, slots := 0, locals := 0 }) s m (([.ref (a 4), .int x1, .int x2, .int x3] : List Value).toArray) below meth c H locs 0 0 Q (F0 m 17 ls []) := by
    intro d
    induction d using Nat.strongRecOn with
    | ind d ih_17 =>
    intro K17 z17_4 H locs ls hd_17 hz17_4 hT hF hLF_17 hP hD hS hl
    have t_9 := hT
    refine lv_iload hx hb dX3_putRow_17 (lv_at hl 0 rfl) ?_
    refine lv_iload_n hx hb dX3_putRow_19 rfl (lv_at hl 4 rfl) ?_
    refine lv_icmp_ge (tgt := 42) hx hb dX3_putRow_20 (by decide) (fun (c_10 : x3 ≤ z17_4) => ?_) (fun (c_10 : ¬ (x3 ≤ z17_4)) => ?_)
    · rw [hQ]
      exact W.vret hx hb hr (fun t ht hW => ⟨⟨K17, rfl, ⟨hT, hF, trivial⟩, ⟨by rw [ht]; exact hP, hD⟩⟩, hS.F ht⟩) hS.2.2 dX3_putRow_42
    · refine lv_aload_n hx hb dX3_putRow_23 rfl (lv_at hl 1 rfl) ?_
      refine va_get (D := D) (ci := 3) (v := .ref (a 31)) (C := RX3) (T := TX3) (N := 3) hx hb htg ig_3 hown hK hP 4 (oh_wg (by decide) (sX_4 hT)) rfl 2 (by decide) (htg _ q_202) (fun _ h9 => h9) rfl dX3_putRow_24 ?_
      refine lv_iload_n hx hb dX3_putRow_27 rfl (lv_at hl 2 rfl) ?_
      refine lv_bipush (v := 40) hx hb dX3_putRow_28 (by decide) ?_
      refine lv_imul hx hb dX3_putRow_30 ?_
      refine lv_iload hx hb dX3_putRow_31 (lv_at hl 0 rfl) ?_
      refine lv_iadd hx hb dX3_putRow_33 ?_
      refine lv_lconst (v := 0) hx hb dX3_putRow_34 (by decide) ?_
      have n_11 : vp_in ((x1 * 40) + z17_4) 320 := (rg_in (rg_add (lo := 0) (hi := 319) (rg_mul (lo := 0) (hi := 280) hx1 (rg_c (v := 40) (lo := 40) (hi := 40) (by decide)) (by decide)) (rn_ltu (u' := 39) (Int32.not_le.mp c_10) hz17_4 hx3 (by decide)) (by decide)) (by decide))
      refine th_last (T := TyX a E) (Rl := fr [(29, 32)] [] C) hx hb hK hP hD hS 31 (by decide) (sX_31 hT) n_11 (hT.up 31 rfl) (fr_st hF (by decide) (by decide)) dX3_putRow_35 (fun C_12 H locs e_13 hT hF hP hD hS => ?_)
      have t_14 := hT
      refine lv_iinc (v := z17_4 + 1) (lv' := [(4, .int (z17_4 + 1)), (0, .ref (a 4)), (1, .int x1), (2, .int x2), (3, .int x3)]) hx hb dX3_putRow_36 hl (k := 0) rfl (by rfl) (by decide) rfl (fun ls hl => ?_)
      refine lv_goto (tgt := 17) hx hb dX3_putRow_39 (by decide) ?_
      exact ih_17 _ (hd_17 ▸ mu_up 40 (rn_ltu (u' := 39) (Int32.not_le.mp c_10) hz17_4 hx3 (by decide)) (by decide)) C_12 (z17_4 + 1) _ _ ls rfl (rg_w (rg_add (lo := 1) (hi := 40) (rn_ltu (u' := 39) (Int32.not_le.mp c_10) hz17_4 hx3 (by decide)) (rg_c (v := 1) (lo := 1) (hi := 1) (by decide)) (by decide)) (by decide)) hT hF (fr_ste hLF_17 e_13 (by decide) (by decide)) hP hD hS (lv_sub hl [0, 1, 2, 3, 4] rfl)
  exact L_17 _ C_6 0 _ _ ls rfl (rg_w (rg_c (v := 0) (lo := 0) (hi := 0) (by decide)) (by decide)) hT hF fr_rf hP hD hS (lv_sub hl [0, 1, 2, 3, 4] rfl)

set_option maxHeartbeats 4000000 in
set_option maxRecDepth 100000 in
theorem c_X3_putBridge (l : Launch) (D : va_G) (E : Nat → ClassId) (G : Nat → Nat) (sz : Nat) (a : Nat → Nat) (C : Nat → va_E) (hT : TyX a E C) (x1 : Int32) (x2 : Int32) (hx1 : rg x1 0 7) : Met l yX3_putBridge (oh_w yX3_putBridge cX3_putBridge 3 none) ({ frames := 0, cells := 0, slots := 0, locals := 0 }) (oh_Pm D E G [.ref (a 4), .int x1, .int x2] (oh_W 35 a C) sz) (va_Qv (fun (u : Nat → va_E) => TyX a E u ∧ fr [(29, 31)] [] C u ∧ True) (oh_B D (va_A (oh_W 35 a C) sz) (fun u => oh_W 35 a u)) (va_A (oh_W 35 a C) sz)) 0 0 (va_A (oh_W 35 a C) sz) := by
  refine Met.ofW (cc := cX3_putBridge) (maxL := 3) (ret := none) (by decide) rfl ?_
  intro p e s m args below meth c s₁ B hml hv
  obtain ⟨rfl, hsz, hP, hK, hD0, hG⟩ := hv
  have hx := B.exec
  have hb := B.bytes
  have hr := B.returns
  have hts := atoms_spec (ws := (oh_w yX3_putBridge cX3_putBridge 3 none)) B.pre
  have htg : ∀ w ∈ oh_t, w.before _ s = true := fun w h => hts w (List.mem_cons_of_mem _ h)
  have hown : s.vm.findClass RX3 = some m.cls := findClass_of_methodNamed B.named
  have hlocks := B.notSynchronized
  have hT0 := hT
  subst hsz
  have hD := hD0.self (sz := s.heap.size)
  generalize hAe : va_A (oh_W 35 a C) s.heap.size = A at hD hG ⊢
  have hA : ∀ q : Nat, s.heap.size ≤ q → A q := fun q h => by rw [← hAe]; exact Or.inr h
  have hS : va_S A s.heap s.heap [] := va_S.rf
  have hF : fr [(29, 31)] [] C C := fr_rf
  have hl := lv_entry ([.ref (a 4), .int x1, .int x2]) (n := 3) (Nat.le_of_ble_eq_true rfl)
  rw [lg_entry_eq]
  generalize (lg_sl ([.ref (a 4), .int x1, .int x2]) ++ List.replicate (3 - (lg_sl ([.ref (a 4), .int x1, .int x2])).length) Slot.unset).toArray = ls at hl ⊢
  have hl : lv_has ls 3 [(0, .ref (a 4)), (1, .int x1), (2, .int x2)] := hl
  refine oh_genQ (fun Q hQ => ?_)
  refine lv_aload_n hx hb dX3_putBridge_0 rfl (lv_at hl 0 rfl) ?_
  refine va_get (D := D) (ci := 3) (v := .ref (a 29)) (C := RX3) (T := TX3) (N := 3) hx hb htg ig_3 hown hK hP 4 (oh_wg (by decide) (sX_4 hT)) rfl 0 (by decide) (htg _ q_198) (fun _ h9 => h9) rfl dX3_putBridge_1 ?_
  refine lv_iload_n hx hb dX3_putBridge_4 rfl (lv_at hl 1 rfl) ?_
  refine lv_iload_n hx hb dX3_putBridge_5 rfl (lv_at hl 2 rfl) ?_
  refine lv_iconst (v := (-1)) hx hb dX3_putBridge_6 (by decide) ?_
  refine lv_icmp_ne (tgt := 14) hx hb dX3_putBridge_7 (by decide) (fun (c_1 : ¬ (x2 = (-1))) => ?_) (fun (c_1 : x2 = (-1)) => ?_)
  · refine lv_bipush (v := 10) hx hb dX3_putBridge_14 (by decide) ?_
    refine lv_iload_n hx hb dX3_putBridge_16 rfl (lv_at hl 2 rfl) ?_
    refine lv_iadd hx hb dX3_putBridge_17 ?_
    have n_2 : vp_in x1 8 := (rg_in hx1 (by decide))
    refine th_iast (T := TyX a E) (Rl := fr [(29, 31)] [] C) hx hb hK hP hD hS 29 (by decide) (sX_29 hT) n_2 (hT.up 29 (tA_upd (tX_29 hT) tA_any)) (fr_st hF (by decide) (by decide)) dX3_putBridge_18 (fun C_3 H locs e_4 hT hF hP hD hS => ?_)
    have t_5 := hT
    refine lv_aload_n hx hb dX3_putBridge_19 rfl (lv_at hl 0 rfl) ?_
    refine va_get (D := D) (ci := 3) (v := .ref (a 30)) (C := RX3) (T := TX3) (N := 3) hx hb htg ig_3 hown hK hP 4 (oh_wg (by decide) (sX_4 hT)) rfl 1 (by decide) (htg _ q_200) (fun _ h9 => h9) rfl dX3_putBridge_20 ?_
    refine lv_iload_n hx hb dX3_putBridge_23 rfl (lv_at hl 1 rfl) ?_
    refine lv_iconst (v := 0) hx hb dX3_putBridge_24 (by decide) ?_
    have n_6 : vp_in x1 8 := (rg_in hx1 (by decide))
    refine th_iast (T := TyX a E) (Rl := fr [(29, 31)] [] C) hx hb hK hP hD hS 30 (by decide) (sX_30 hT) n_6 (hT.up 30 (tA_upd (tX_30 hT) (tA_stc (Nat.mod_one _) (rg_c (v := 0) (lo := 0) (hi := 0) (by decide)) (by decide)))) (fr_st hF (by decide) (by decide)) dX3_putBridge_25 (fun C_7 H locs e_8 hT hF hP hD hS => ?_)
    have t_9 := hT
    rw [hQ]
    exact W.vret hx hb hr (fun t ht hW => ⟨⟨C_7, rfl, ⟨hT, hF, trivial⟩, ⟨by rw [ht]; exact hP, hD⟩⟩, hS.F ht⟩) hS.2.2 dX3_putBridge_26
  · refine lv_iconst (v := (-1)) hx hb dX3_putBridge_10 (by decide) ?_
    refine lv_goto (tgt := 18) hx hb dX3_putBridge_11 (by decide) ?_
    have n_10 : vp_in x1 8 := (rg_in hx1 (by decide))
    refine th_iast (T := TyX a E) (Rl := fr [(29, 31)] [] C) hx hb hK hP hD hS 29 (by decide) (sX_29 hT) n_10 (hT.up 29 (tA_upd (tX_29 hT) tA_any)) (fr_st hF (by decide) (by decide)) dX3_putBridge_18 (fun C_11 H locs e_12 hT hF hP hD hS => ?_)
    have t_13 := hT
    refine lv_aload_n hx hb dX3_putBridge_19 rfl (lv_at hl 0 rfl) ?_
    refine va_get (D := D) (ci := 3) (v := .ref (a 30)) (C := RX3) (T := TX3) (N := 3) hx hb htg ig_3 hown hK hP 4 (oh_wg (by decide) (sX_4 hT)) rfl 1 (by decide) (htg _ q_200) (fun _ h9 => h9) rfl dX3_putBridge_20 ?_
    refine lv_iload_n hx hb dX3_putBridge_23 rfl (lv_at hl 1 rfl) ?_
    refine lv_iconst (v := 0) hx hb dX3_putBridge_24 (by decide) ?_
    have n_14 : vp_in x1 8 := (rg_in hx1 (by decide))
    refine th_iast (T := TyX a E) (Rl := fr [(29, 31)] [] C) hx hb hK hP hD hS 30 (by decide) (sX_30 hT) n_14 (hT.up 30 (tA_upd (tX_30 hT) (tA_stc (Nat.mod_one _) (rg_c (v := 0) (lo := 0) (hi := 0) (by decide)) (by decide)))) (fr_st hF (by decide) (by decide)) dX3_putBridge_25 (fun C_15 H locs e_16 hT hF hP hD hS => ?_)
    have t_17 := hT
    rw [hQ]
    exact W.vret hx hb hr (fun t ht hW => ⟨⟨C_15, rfl, ⟨hT, hF, trivial⟩, ⟨by rw [ht]; exact hP, hD⟩⟩, hS.F ht⟩) hS.2.2 dX3_putBridge_26

set_option maxHeartbeats 4000000 in
set_option maxRecDepth 100000 in
theorem c_X3_dropBridgesFrom (l : Launch) (D : va_G) (E : Nat → ClassId) (G : Nat → Nat) (sz : Nat) (a : Nat → Nat) (C : Nat → va_E) (hT : TyX a E C) (x1 : Int32) : Met l yX3_dropBridgesFrom (oh_w yX3_dropBridgesFrom cX3_dropBridgesFrom 3 none) ({ frames := 1, cells := 0, slots := 0, locals := 22 }) (oh_Pm D E G [.ref (a 4), .int x1] (oh_W 35 a C) sz) (va_Qv (fun (u : Nat → va_E) => TyX a E u ∧ fr [(29, 31)] [] C u ∧ True) (oh_B D (va_A (oh_W 35 a C) sz) (fun u => oh_W 35 a u)) (va_A (oh_W 35 a C) sz)) 0 0 (va_A (oh_W 35 a C) sz) := by
  refine Met.ofW (cc := cX3_dropBridgesFrom) (maxL := 3) (ret := none) (by decide) rfl ?_
  intro p e s m args below meth c s₁ B hml hv
  obtain ⟨rfl, hsz, hP, hK, hD0, hG⟩ := hv
  have hx := B.exec
  have hb := B.bytes
  have hr := B.returns
  have hts := atoms_spec (ws := (oh_w yX3_dropBridgesFrom cX3_dropBridgesFrom 3 none)) B.pre
  have htg : ∀ w ∈ oh_t, w.before _ s = true := fun w h => hts w (List.mem_cons_of_mem _ h)
  have hown : s.vm.findClass RX3 = some m.cls := findClass_of_methodNamed B.named
  have hlocks := B.notSynchronized
  have hT0 := hT
  subst hsz
  have hD := hD0.self (sz := s.heap.size)
  generalize hAe : va_A (oh_W 35 a C) s.heap.size = A at hD hG ⊢
  have hA : ∀ q : Nat, s.heap.size ≤ q → A q := fun q h => by rw [← hAe]; exact Or.inr h
  have hS : va_S A s.heap s.heap [] := va_S.rf
  have hF : fr [(29, 31)] [] C C := fr_rf
  have hl := lv_entry ([.ref (a 4), .int x1]) (n := 3) (Nat.le_of_ble_eq_true rfl)
  rw [lg_entry_eq]
  generalize (lg_sl ([.ref (a 4), .int x1]) ++ List.replicate (3 - (lg_sl ([.ref (a 4), .int x1])).length) Slot.unset).toArray = ls at hl ⊢
  have hl : lv_has ls 3 [(0, .ref (a 4)), (1, .int x1)] := hl
  refine oh_genQ (fun Q hQ => ?_)
  refine lv_iconst (v := 0) hx hb dX3_dropBridgesFrom_0 (by decide) ?_
  refine lv_istore_n (lv' := [(2, .int 0), (0, .ref (a 4)), (1, .int x1)]) hx hb dX3_dropBridgesFrom_1 rfl hl (by decide) rfl (fun ls hl => ?_)
  have L_2 : ∀ (d : Nat) (K2 : Nat → va_E) (z2_2 : Int32) (H : Heap) (locs : List Loc) (ls : Array Slot), (8 - z2_2.toInt).toNat = d → rg z2_2 0 8 → TyX a E K2 → fr [(29, 31)] [] C K2 → fr [(29, 31)] [] C K2 → va_P D vwCl (oh_W 35 a K2) H → va_D A (oh_W 35 a K2) → va_S A s.heap H locs → lv_has ls 3 [(2, .int z2_2), (0, .ref (a 4)), (1, .int x1)] → W p l e ({ frames := 1, cells := 0, slots := 0, locals := 22 }) s m (([.ref (a 4), .int x1] : List Value).toArray) below meth c H locs 0 0 Q (F0 m 2 ls []) := by
    intro d
    induction d using Nat.strongRecOn with
    | ind d ih_2 =>
    intro K2 z2_2 H locs ls hd_2 hz2_2 hT hF hLF_2 hP hD hS hl
    have t_1 := hT
    refine lv_iload_n hx hb dX3_dropBridgesFrom_2 rfl (lv_at hl 0 rfl) ?_
    refine lv_bipush (v := 8) hx hb dX3_dropBridgesFrom_3 (by decide) ?_
    refine lv_icmp_ge (tgt := 33) hx hb dX3_dropBridgesFrom_5 (by decide) (fun (c_2 : (8 : Int32) ≤ z2_2) => ?_) (fun (c_2 : ¬ ((8 : Int32) ≤ z2_2)) => ?_)
    · rw [hQ]
      exact W.vret hx hb hr (fun t ht hW => ⟨⟨K2, rfl, ⟨hT, hF, trivial⟩, ⟨by rw [ht]; exact hP, hD⟩⟩, hS.F ht⟩) hS.2.2 dX3_dropBridgesFrom_33
    · refine lv_aload_n hx hb dX3_dropBridgesFrom_8 rfl (lv_at hl 1 rfl) ?_
      refine va_get (D := D) (ci := 3) (v := .ref (a 29)) (C := RX3) (T := TX3) (N := 3) hx hb htg ig_3 hown hK hP 4 (oh_wg (by decide) (sX_4 hT)) rfl 0 (by decide) (htg _ q_198) (fun _ h9 => h9) rfl dX3_dropBridgesFrom_9 ?_
      refine lv_iload_n hx hb dX3_dropBridgesFrom_12 rfl (lv_at hl 0 rfl) ?_
      have n_3 : vp_in z2_2 8 := (rg_in (rn_ltu (u' := 7) (Int32.not_le.mp c_2) hz2_2 (rg_c (v := 8) (lo := 8) (hi := 8) (by decide)) (by decide)) (by decide))
      refine th_iald hx hb hK hP 29 (by decide) (sX_29 hT) n_3 dX3_dropBridgesFrom_13 ?_
      refine lv_bipush (v := 10) hx hb dX3_dropBridgesFrom_14 (by decide) ?_
      refine lv_iload_n hx hb dX3_dropBridgesFrom_16 rfl (lv_at hl 2 rfl) ?_
      refine lv_iadd hx hb dX3_dropBridgesFrom_17 ?_
      refine lv_icmp_lt (tgt := 27) hx hb dX3_dropBridgesFrom_18 (by decide) (fun (c_4 : (ga (K2 29) (z2_2).toNatClampNeg) < (10 + x1)) => ?_) (fun (c_4 : ¬ ((ga (K2 29) (z2_2).toNatClampNeg) < (10 + x1))) => ?_)
      · refine lv_iinc (v := z2_2 + 1) (lv' := [(2, .int (z2_2 + 1)), (0, .ref (a 4)), (1, .int x1)]) hx hb dX3_dropBridgesFrom_27 hl (k := 0) rfl (by rfl) (by decide) rfl (fun ls hl => ?_)
        refine lv_goto (tgt := 2) hx hb dX3_dropBridgesFrom_30 (by decide) ?_
        exact ih_2 _ (hd_2 ▸ mu_up 8 (rn_ltu (u' := 7) (Int32.not_le.mp c_2) hz2_2 (rg_c (v := 8) (lo := 8) (hi := 8) (by decide)) (by decide)) (by decide)) K2 (z2_2 + 1) _ _ ls rfl (rg_w (rg_add (lo := 1) (hi := 8) (rn_ltu (u' := 7) (Int32.not_le.mp c_2) hz2_2 (rg_c (v := 8) (lo := 8) (hi := 8) (by decide)) (by decide)) (rg_c (v := 1) (lo := 1) (hi := 1) (by decide)) (by decide)) (by decide)) hT hF hLF_2 hP hD hS (lv_sub hl [0, 1, 2] rfl)
      · refine lv_aload_n hx hb dX3_dropBridgesFrom_21 rfl (lv_at hl 1 rfl) ?_
        refine lv_iload_n hx hb dX3_dropBridgesFrom_22 rfl (lv_at hl 0 rfl) ?_
        refine lv_iconst (v := (-1)) hx hb dX3_dropBridgesFrom_23 (by decide) ?_
        refine tm_Vv (As := [.int z2_2, .int (-1)]) (rest := []) ⟨hx, hb, hml, hown, htg⟩ (c_X3_putBridge l D E G _ a K2 hT z2_2 ((-1) : Int32) (rg_w (rn_ltu (u' := 7) (Int32.not_le.mp c_2) hz2_2 (rg_c (v := 8) (lo := 8) (hi := 8) (by decide)) (by decide)) (by decide))) (cwV 2 htg (oh_gV q_950 q_371 q_372 q_70 q_373) rfl rfl rfl pdVX3_putBridge ⟨Nat.le_of_ble_eq_true rfl, Nat.le_of_ble_eq_true rfl⟩) hK hP hD hG hS hA (va_recv hK hP (ci := 3) (q0 := 4) rfl (oh_wg (by decide) (sX_4 hT))) rfl hl.1 rfl (Nat.le_of_ble_eq_true rfl) dX3_dropBridgesFrom_24 ⟨Nat.le_of_ble_eq_true rfl, Nat.le_of_ble_eq_true rfl⟩ (fun C_6 H locs hq_7 hP hD hS => ?_)
        obtain ⟨hT, f_8, hq_7⟩ := hq_7
        have hF := fr_tr hF f_8 (by decide) (by decide)
        refine W.widen (k := 0) (n := 0) (Nat.le_refl _) (Nat.le_refl _) ?_
        have t_9 := hT
        refine lv_iinc (v := z2_2 + 1) (lv' := [(2, .int (z2_2 + 1)), (0, .ref (a 4)), (1, .int x1)]) hx hb dX3_dropBridgesFrom_27 hl (k := 0) rfl (by rfl) (by decide) rfl (fun ls hl => ?_)
        refine lv_goto (tgt := 2) hx hb dX3_dropBridgesFrom_30 (by decide) ?_
        exact ih_2 _ (hd_2 ▸ mu_up 8 (rn_ltu (u' := 7) (Int32.not_le.mp c_2) hz2_2 (rg_c (v := 8) (lo := 8) (hi := 8) (by decide)) (by decide)) (by decide)) C_6 (z2_2 + 1) _ _ ls rfl (rg_w (rg_add (lo := 1) (hi := 8) (rn_ltu (u' := 7) (Int32.not_le.mp c_2) hz2_2 (rg_c (v := 8) (lo := 8) (hi := 8) (by decide)) (by decide)) (rg_c (v := 1) (lo := 1) (hi := 1) (by decide)) (by decide)) (by decide)) hT hF (fr_tr hLF_2 f_8 (by decide) (by decide)) hP hD hS (lv_sub hl [0, 1, 2] rfl)
  exact L_2 _ C 0 _ _ ls rfl (rg_w (rg_c (v := 0) (lo := 0) (hi := 0) (by decide)) (by decide)) hT hF fr_rf hP hD hS (lv_sub hl [0, 1, 2] rfl)

set_option maxHeartbeats 4000000 in
set_option maxRecDepth 100000 in
theorem c_X3_elementAt (l : Launch) (D : va_G) (E : Nat → ClassId) (G : Nat → Nat) (a : Nat → Nat) (C : Nat → va_E) (hT : TyX a E C) (x1 : Int32) (x2 : Int32) (hx1 : rg x1 0 7) : Met l yX3_elementAt (oh_w yX3_elementAt cX3_elementAt 3 (some .long)) ({ frames := 1, cells := 0, slots := 0, locals := 22 }) (oh_Pp D E G [.ref (a 4), .int x1, .int x2] (oh_W 35 a C)) (vp_Sl (fun r => True)) 0 0 (fun _ => False) := by
  refine Met.ofW (cc := cX3_elementAt) (maxL := 3) (ret := (some .long)) (by decide) rfl ?_
  intro p e s m args below meth c s₁ B hml hv
  obtain ⟨rfl, hP, hK, hG⟩ := hv
  have hx := B.exec
  have hb := B.bytes
  have hr := B.returns
  have hts := atoms_spec (ws := (oh_w yX3_elementAt cX3_elementAt 3 (some .long))) B.pre
  have htg : ∀ w ∈ oh_t, w.before _ s = true := fun w h => hts w (List.mem_cons_of_mem _ h)
  have hown : s.vm.findClass RX3 = some m.cls := findClass_of_methodNamed B.named
  have hlocks := B.notSynchronized
  have hT0 := hT
  have hS : va_S (fun _ => False) s.heap s.heap [] := va_S.rf
  have hl := lv_entry ([.ref (a 4), .int x1, .int x2]) (n := 3) (Nat.le_of_ble_eq_true rfl)
  rw [lg_entry_eq]
  generalize (lg_sl ([.ref (a 4), .int x1, .int x2]) ++ List.replicate (3 - (lg_sl ([.ref (a 4), .int x1, .int x2])).length) Slot.unset).toArray = ls at hl ⊢
  have hl : lv_has ls 3 [(0, .ref (a 4)), (1, .int x1), (2, .int x2)] := hl
  refine oh_genQ (fun Q hQ => ?_)
  refine lv_iload_n hx hb dX3_elementAt_0 rfl (lv_at hl 2 rfl) ?_
  refine lv_iconst (v := 0) hx hb dX3_elementAt_1 (by decide) ?_
  refine lv_aload_n hx hb dX3_elementAt_2 rfl (lv_at hl 0 rfl) ?_
  refine va_get (D := D) (ci := 3) (v := .ref (a 30)) (C := RX3) (T := TX3) (N := 3) hx hb htg ig_3 hown hK hP 4 (oh_wg (by decide) (sX_4 hT)) rfl 1 (by decide) (htg _ q_200) (fun _ h9 => h9) rfl dX3_elementAt_3 ?_
  refine lv_iload_n hx hb dX3_elementAt_6 rfl (lv_at hl 1 rfl) ?_
  have n_1 : vp_in x1 8 := (rg_in hx1 (by decide))
  refine th_iald hx hb hK hP 30 (by decide) (sX_30 hT) n_1 dX3_elementAt_7 ?_
  refine lv_iconst (v := 1) hx hb dX3_elementAt_8 (by decide) ?_
  refine lv_isub hx hb dX3_elementAt_9 ?_
  refine tq_SN (As := [.int x2, .int 0, .int ((ga (C 30) (x1).toNatClampNeg) - 1)]) (rest := []) (ws := []) ⟨hx, hb, hml, hown, htg⟩ (c_X6_within l D E G x2 (0 : Int32) ((ga (C 30) (x1).toNatClampNeg) - 1)) ⟨va_cnB (y := yX6_within) 3 htg (oh_gW q_295) rfl rfl rfl (hG.1 ("OneHeavyLoad$Shelves", 36, ⟨"OneHeavyLoad", "within", "(III)Z"⟩, "OneHeavyLoad") (List.mem_of_getElem? (i := 1) rfl)) (htg _ q_66) pdX6_within ⟨Nat.le_of_ble_eq_true rfl, Nat.le_of_ble_eq_true rfl⟩, htg _ q_294, trivial⟩ hK va_nil hG hS rfl hl.1 rfl (Nat.le_of_ble_eq_true rfl) dX3_elementAt_10 ⟨Nat.le_of_ble_eq_true rfl, Nat.le_of_ble_eq_true rfl⟩ (fun r_2 hq_3 => ?_)
  refine lv_if_eq (tgt := 30) hx hb dX3_elementAt_13 (by decide) (fun (c_4 : r_2 = 0) => ?_) (fun (c_4 : ¬ (r_2 = 0)) => ?_)
  · have u_5 := hq_3.2.2 c_4
    refine lv_lconst (v := 0) hx hb dX3_elementAt_30 (by decide) ?_
    rw [hQ]
    exact W.lret (v := 0) hx hb hr (fun t ht hW => ⟨0, rfl, trivial, ht⟩) (fun q h => by cases h) dX3_elementAt_31
  · have u_6 := hq_3.2.1 c_4
    refine lv_aload_n hx hb dX3_elementAt_16 rfl (lv_at hl 0 rfl) ?_
    refine va_get (D := D) (ci := 3) (v := .ref (a 31)) (C := RX3) (T := TX3) (N := 3) hx hb htg ig_3 hown hK hP 4 (oh_wg (by decide) (sX_4 hT)) rfl 2 (by decide) (htg _ q_202) (fun _ h9 => h9) rfl dX3_elementAt_17 ?_
    refine lv_iload_n hx hb dX3_elementAt_20 rfl (lv_at hl 1 rfl) ?_
    refine lv_bipush (v := 40) hx hb dX3_elementAt_21 (by decide) ?_
    refine lv_imul hx hb dX3_elementAt_23 ?_
    refine lv_iload_n hx hb dX3_elementAt_24 rfl (lv_at hl 2 rfl) ?_
    refine lv_iadd hx hb dX3_elementAt_25 ?_
    have n_7 : vp_in ((x1 * 40) + x2) 320 := (rg_in (rg_add (lo := 0) (hi := 319) (rg_mul (lo := 0) (hi := 280) hx1 (rg_c (v := 40) (lo := 40) (hi := 40) (by decide)) (by decide)) (rn_leu u_6.2 (rn_lel u_6.1 (rg_c (v := 0) (lo := 0) (hi := 0) (by decide)) (rg_any _)) (rg_sub (lo := (-1)) (hi := 39) (tA_rdc (lo := 0) (hi := 40) (tX_30 hT0) n_1 (Nat.mod_one _) (by decide)) (rg_c (v := 1) (lo := 1) (hi := 1) (by decide)) (by decide))) (by decide)) (by decide))
    refine th_lald hx hb hK hP 31 (by decide) (sX_31 hT) n_7 dX3_elementAt_26 ?_
    refine lv_goto (tgt := 31) hx hb dX3_elementAt_27 (by decide) ?_
    rw [hQ]
    exact W.lret (v := gb (C 31) ((x1 * 40) + x2).toNatClampNeg) hx hb hr (fun t ht hW => ⟨gb (C 31) ((x1 * 40) + x2).toNatClampNeg, rfl, trivial, ht⟩) (fun q h => by cases h) dX3_elementAt_31

set_option maxHeartbeats 4000000 in
set_option maxRecDepth 100000 in
theorem c_X3_asSort (l : Launch) (D : va_G) (E : Nat → ClassId) (G : Nat → Nat) (x1 : Int32) (x2 : Int64) : Met l yX3_asSort (oh_w yX3_asSort cX3_asSort 3 (some .long)) ({ frames := 0, cells := 0, slots := 0, locals := 0 }) (oh_Pp D E G [.int x1, .long x2] []) (vp_Sl (fun r => True)) 0 0 (fun _ => False) := by
  refine Met.ofW (cc := cX3_asSort) (maxL := 3) (ret := (some .long)) (by decide) rfl ?_
  intro p e s m args below meth c s₁ B hml hv
  obtain ⟨rfl, hP, hK, hG⟩ := hv
  have hx := B.exec
  have hb := B.bytes
  have hr := B.returns
  have hts := atoms_spec (ws := (oh_w yX3_asSort cX3_asSort 3 (some .long))) B.pre
  have htg : ∀ w ∈ oh_t, w.before _ s = true := fun w h => hts w (List.mem_cons_of_mem _ h)
  have hown : s.vm.findClass RX3 = some m.cls := findClass_of_methodNamed B.named
  have hlocks := B.notSynchronized
  have hS : va_S (fun _ => False) s.heap s.heap [] := va_S.rf
  have hl := lv_entry ([.int x1, .long x2]) (n := 3) (Nat.le_of_ble_eq_true rfl)
  rw [lg_entry_eq]
  generalize (lg_sl ([.int x1, .long x2]) ++ List.replicate (3 - (lg_sl ([.int x1, .long x2])).length) Slot.unset).toArray = ls at hl ⊢
  have hl : lv_has ls 3 [(0, .int x1), (1, .long x2)] := hl
  refine oh_genQ (fun Q hQ => ?_)
  refine lv_iload_n hx hb dX3_asSort_0 rfl (lv_at hl 0 rfl) ?_
  by_cases c_1 : x1 = 0
  · refine lv_tableIn (off := 35) (tgt := 36) hx hb dX3_asSort_1 (by rw [c_1]; decide) (by rw [c_1]; decide) (by rw [c_1]; decide) (by decide) ?_
    refine lv_lload_n hx hb dX3_asSort_36 rfl (lv_at hl 1 rfl) ?_
    refine lv_l2i (v := Int64.toInt32 x2) hx hb dX3_asSort_37 rfl ?_
    refine lv_i2b (v := (Int64.toInt32 x2).toInt8.toInt32) hx hb dX3_asSort_38 rfl ?_
    refine lv_i2l (v := Int32.toInt64 ((Int64.toInt32 x2).toInt8.toInt32)) hx hb dX3_asSort_39 (by rfl) ?_
    rw [hQ]
    exact W.lret (v := Int32.toInt64 ((Int64.toInt32 x2).toInt8.toInt32)) hx hb hr (fun t ht hW => ⟨Int32.toInt64 ((Int64.toInt32 x2).toInt8.toInt32), rfl, trivial, ht⟩) (fun q h => by cases h) dX3_asSort_40
  · by_cases c_2 : x1 = 1
    · refine lv_tableIn (off := 40) (tgt := 41) hx hb dX3_asSort_1 (by rw [c_2]; decide) (by rw [c_2]; decide) (by rw [c_2]; decide) (by decide) ?_
      refine lv_lload_n hx hb dX3_asSort_41 rfl (lv_at hl 1 rfl) ?_
      refine lv_l2i (v := Int64.toInt32 x2) hx hb dX3_asSort_42 rfl ?_
      refine lv_i2s (v := (Int64.toInt32 x2).toInt16.toInt32) hx hb dX3_asSort_43 rfl ?_
      refine lv_i2l (v := Int32.toInt64 ((Int64.toInt32 x2).toInt16.toInt32)) hx hb dX3_asSort_44 (by rfl) ?_
      rw [hQ]
      exact W.lret (v := Int32.toInt64 ((Int64.toInt32 x2).toInt16.toInt32)) hx hb hr (fun t ht hW => ⟨Int32.toInt64 ((Int64.toInt32 x2).toInt16.toInt32), rfl, trivial, ht⟩) (fun q h => by cases h) dX3_asSort_45
    · by_cases c_3 : x1 = 2
      · refine lv_tableIn (off := 45) (tgt := 46) hx hb dX3_asSort_1 (by rw [c_3]; decide) (by rw [c_3]; decide) (by rw [c_3]; decide) (by decide) ?_
        refine lv_lload_n hx hb dX3_asSort_46 rfl (lv_at hl 1 rfl) ?_
        refine lv_l2i (v := Int64.toInt32 x2) hx hb dX3_asSort_47 rfl ?_
        refine lv_i2l (v := Int32.toInt64 (Int64.toInt32 x2)) hx hb dX3_asSort_48 (by rfl) ?_
        rw [hQ]
        exact W.lret (v := Int32.toInt64 (Int64.toInt32 x2)) hx hb hr (fun t ht hW => ⟨Int32.toInt64 (Int64.toInt32 x2), rfl, trivial, ht⟩) (fun q h => by cases h) dX3_asSort_49
      · by_cases c_4 : x1 = 3
        · refine lv_tableIn (off := 61) (tgt := 62) hx hb dX3_asSort_1 (by rw [c_4]; decide) (by rw [c_4]; decide) (by rw [c_4]; decide) (by decide) ?_
          refine lv_lload_n hx hb dX3_asSort_62 rfl (lv_at hl 1 rfl) ?_
          rw [hQ]
          exact W.lret (v := x2) hx hb hr (fun t ht hW => ⟨x2, rfl, trivial, ht⟩) (fun q h => by cases h) dX3_asSort_63
        · by_cases c_5 : x1 = 4
          · refine lv_tableIn (off := 49) (tgt := 50) hx hb dX3_asSort_1 (by rw [c_5]; decide) (by rw [c_5]; decide) (by rw [c_5]; decide) (by decide) ?_
            refine lv_lload_n hx hb dX3_asSort_50 rfl (lv_at hl 1 rfl) ?_
            refine lv_lconst (v := 0) hx hb dX3_asSort_51 (by decide) ?_
            refine W.lcmp hx hb dX3_asSort_52 ?_
            refine lv_if_eq (tgt := 60) hx hb dX3_asSort_53 (by decide) (fun (c_6 : (lg_cmp x2 0) = 0) => ?_) (fun (c_6 : ¬ ((lg_cmp x2 0) = 0)) => ?_)
            · refine lv_lconst (v := 0) hx hb dX3_asSort_60 (by decide) ?_
              rw [hQ]
              exact W.lret (v := 0) hx hb hr (fun t ht hW => ⟨0, rfl, trivial, ht⟩) (fun q h => by cases h) dX3_asSort_61
            · refine lv_lconst (v := 1) hx hb dX3_asSort_56 (by decide) ?_
              refine lv_goto (tgt := 61) hx hb dX3_asSort_57 (by decide) ?_
              rw [hQ]
              exact W.lret (v := 1) hx hb hr (fun t ht hW => ⟨1, rfl, trivial, ht⟩) (fun q h => by cases h) dX3_asSort_61
          · refine lv_tableOut (tgt := 62) hx hb dX3_asSort_1 (by have h9 := And.intro (oh_ne c_1 (k := 0) (by decide)) (And.intro (oh_ne c_2 (k := 1) (by decide)) (And.intro (oh_ne c_3 (k := 2) (by decide)) (And.intro (oh_ne c_4 (k := 3) (by decide)) (And.intro (oh_ne c_5 (k := 4) (by decide)) trivial)))); omega) (by decide) ?_
            refine lv_lload_n hx hb dX3_asSort_62 rfl (lv_at hl 1 rfl) ?_
            rw [hQ]
            exact W.lret (v := x2) hx hb hr (fun t ht hW => ⟨x2, rfl, trivial, ht⟩) (fun q h => by cases h) dX3_asSort_63

set_option maxHeartbeats 4000000 in
set_option maxRecDepth 100000 in
theorem c_X3_putElement (l : Launch) (D : va_G) (E : Nat → ClassId) (G : Nat → Nat) (sz : Nat) (a : Nat → Nat) (C : Nat → va_E) (hT : TyX a E C) (x1 : Int32) (x2 : Int32) (x3 : Int64) (hx1 : rg x1 0 7) (hx2 : rg x2 0 39) : Met l yX3_putElement (oh_w yX3_putElement cX3_putElement 5 none) ({ frames := 1, cells := 0, slots := 0, locals := 22 }) (oh_Pm D E G [.ref (a 4), .int x1, .int x2, .long x3] (oh_W 35 a C) sz) (va_Qv (fun (u : Nat → va_E) => TyX a E u ∧ fr [(31, 32)] [] C u ∧ True) (oh_B D (va_A (oh_W 35 a C) sz) (fun u => oh_W 35 a u)) (va_A (oh_W 35 a C) sz)) 0 0 (va_A (oh_W 35 a C) sz) := by
  refine Met.ofW (cc := cX3_putElement) (maxL := 5) (ret := none) (by decide) rfl ?_
  intro p e s m args below meth c s₁ B hml hv
  obtain ⟨rfl, hsz, hP, hK, hD0, hG⟩ := hv
  have hx := B.exec
  have hb := B.bytes
  have hr := B.returns
  have hts := atoms_spec (ws := (oh_w yX3_putElement cX3_putElement 5 none)) B.pre
  have htg : ∀ w ∈ oh_t, w.before _ s = true := fun w h => hts w (List.mem_cons_of_mem _ h)
  have hown : s.vm.findClass RX3 = some m.cls := findClass_of_methodNamed B.named
  have hlocks := B.notSynchronized
  have hT0 := hT
  subst hsz
  have hD := hD0.self (sz := s.heap.size)
  generalize hAe : va_A (oh_W 35 a C) s.heap.size = A at hD hG ⊢
  have hA : ∀ q : Nat, s.heap.size ≤ q → A q := fun q h => by rw [← hAe]; exact Or.inr h
  have hS : va_S A s.heap s.heap [] := va_S.rf
  have hF : fr [(31, 32)] [] C C := fr_rf
  have hl := lv_entry ([.ref (a 4), .int x1, .int x2, .long x3]) (n := 5) (Nat.le_of_ble_eq_true rfl)
  rw [lg_entry_eq]
  generalize (lg_sl ([.ref (a 4), .int x1, .int x2, .long x3]) ++ List.replicate (5 - (lg_sl ([.ref (a 4), .int x1, .int x2, .long x3])).length) Slot.unset).toArray = ls at hl ⊢
  have hl : lv_has ls 5 [(0, .ref (a 4)), (1, .int x1), (2, .int x2), (3, .long x3)] := hl
  refine oh_genQ (fun Q hQ => ?_)
  refine lv_aload_n hx hb dX3_putElement_0 rfl (lv_at hl 0 rfl) ?_
  refine va_get (D := D) (ci := 3) (v := .ref (a 31)) (C := RX3) (T := TX3) (N := 3) hx hb htg ig_3 hown hK hP 4 (oh_wg (by decide) (sX_4 hT)) rfl 2 (by decide) (htg _ q_202) (fun _ h9 => h9) rfl dX3_putElement_1 ?_
  refine lv_iload_n hx hb dX3_putElement_4 rfl (lv_at hl 1 rfl) ?_
  refine lv_bipush (v := 40) hx hb dX3_putElement_5 (by decide) ?_
  refine lv_imul hx hb dX3_putElement_7 ?_
  refine lv_iload_n hx hb dX3_putElement_8 rfl (lv_at hl 2 rfl) ?_
  refine lv_iadd hx hb dX3_putElement_9 ?_
  refine lv_aload_n hx hb dX3_putElement_10 rfl (lv_at hl 0 rfl) ?_
  refine va_get (D := D) (ci := 3) (v := .ref (a 29)) (C := RX3) (T := TX3) (N := 3) hx hb htg ig_3 hown hK hP 4 (oh_wg (by decide) (sX_4 hT)) rfl 0 (by decide) (htg _ q_198) (fun _ h9 => h9) rfl dX3_putElement_11 ?_
  refine lv_iload_n hx hb dX3_putElement_14 rfl (lv_at hl 1 rfl) ?_
  have n_1 : vp_in x1 8 := (rg_in hx1 (by decide))
  refine th_iald hx hb hK hP 29 (by decide) (sX_29 hT) n_1 dX3_putElement_15 ?_
  refine lv_lload_n hx hb dX3_putElement_16 rfl (lv_at hl 3 rfl) ?_
  refine tq_Sl (As := [.int (ga (C 29) (x1).toNatClampNeg), .long x3]) (rest := [.int ((x1 * 40) + x2), .ref (a 31)]) (ws := []) ⟨hx, hb, hml, hown, htg⟩ (c_X3_asSort l D E G (ga (C 29) (x1).toNatClampNeg) x3) (va_cwS 2 htg (oh_gS q_324 q_325 q_70 q_326) rfl rfl rfl pdX3_asSort ⟨Nat.le_of_ble_eq_true rfl, Nat.le_of_ble_eq_true rfl⟩) hK va_nil hG hS rfl hl.1 rfl (Nat.le_of_ble_eq_true rfl) dX3_putElement_17 ⟨Nat.le_of_ble_eq_true rfl, Nat.le_of_ble_eq_true rfl⟩ (fun r_2 hq_3 => ?_)
  have n_4 : vp_in ((x1 * 40) + x2) 320 := (rg_in (rg_add (lo := 0) (hi := 319) (rg_mul (lo := 0) (hi := 280) hx1 (rg_c (v := 40) (lo := 40) (hi := 40) (by decide)) (by decide)) hx2 (by decide)) (by decide))
  refine th_last (T := TyX a E) (Rl := fr [(31, 32)] [] C) hx hb hK hP hD hS 31 (by decide) (sX_31 hT) n_4 (hT.up 31 rfl) (fr_st hF (by decide) (by decide)) dX3_putElement_20 (fun C_5 H locs e_6 hT hF hP hD hS => ?_)
  have t_7 := hT
  rw [hQ]
  exact W.vret hx hb hr (fun t ht hW => ⟨⟨C_5, rfl, ⟨hT, hF, trivial⟩, ⟨by rw [ht]; exact hP, hD⟩⟩, hS.F ht⟩) hS.2.2 dX3_putElement_21
theorem bg_dX3_copyElements_0 : bysAt cX3_copyElements 0 [42, 180, 0, 18, 27, 16, 40, 104, 29, 96, 42, 180, 0, 18, 28, 16, 40, 104, 21, 4, 96] := bysAt_of (by decide +kernel)
theorem dX3_copyElements_0 : decode cX3_copyElements 0 = .ok (.aload_n 0, 1) := o_42 (bg_dX3_copyElements_0 0 42 rfl)
theorem dX3_copyElements_1 : decode cX3_copyElements 1 = .ok (.getfield 18, 3) := o_180 (bg_dX3_copyElements_0 1 180 rfl) (bg_dX3_copyElements_0 2 0 rfl) (bg_dX3_copyElements_0 3 18 rfl)
theorem dX3_copyElements_4 : decode cX3_copyElements 4 = .ok (.iload_n 1, 1) := o_27 (bg_dX3_copyElements_0 4 27 rfl)
theorem dX3_copyElements_5 : decode cX3_copyElements 5 = .ok (.bipush 40, 2) := o_16 (bg_dX3_copyElements_0 5 16 rfl) (bg_dX3_copyElements_0 6 40 rfl) (by decide +kernel)
theorem dX3_copyElements_7 : decode cX3_copyElements 7 = .ok (.imul, 1) := o_104 (bg_dX3_copyElements_0 7 104 rfl)
theorem dX3_copyElements_8 : decode cX3_copyElements 8 = .ok (.iload_n 3, 1) := o_29 (bg_dX3_copyElements_0 8 29 rfl)
theorem dX3_copyElements_9 : decode cX3_copyElements 9 = .ok (.iadd, 1) := o_96 (bg_dX3_copyElements_0 9 96 rfl)
theorem dX3_copyElements_10 : decode cX3_copyElements 10 = .ok (.aload_n 0, 1) := o_42 (bg_dX3_copyElements_0 10 42 rfl)
theorem dX3_copyElements_11 : decode cX3_copyElements 11 = .ok (.getfield 18, 3) := o_180 (bg_dX3_copyElements_0 11 180 rfl) (bg_dX3_copyElements_0 12 0 rfl) (bg_dX3_copyElements_0 13 18 rfl)
theorem dX3_copyElements_14 : decode cX3_copyElements 14 = .ok (.iload_n 2, 1) := o_28 (bg_dX3_copyElements_0 14 28 rfl)
theorem dX3_copyElements_15 : decode cX3_copyElements 15 = .ok (.bipush 40, 2) := o_16 (bg_dX3_copyElements_0 15 16 rfl) (bg_dX3_copyElements_0 16 40 rfl) (by decide +kernel)
theorem dX3_copyElements_17 : decode cX3_copyElements 17 = .ok (.imul, 1) := o_104 (bg_dX3_copyElements_0 17 104 rfl)
theorem dX3_copyElements_18 : decode cX3_copyElements 18 = .ok (.iload 4, 2) := o_21 (bg_dX3_copyElements_0 18 21 rfl) (bg_dX3_copyElements_0 19 4 rfl)
theorem dX3_copyElements_20 : decode cX3_copyElements 20 = .ok (.iadd, 1) := o_96 (bg_dX3_copyElements_0 20 96 rfl)
theorem bg_dX3_copyElements_21 : bysAt cX3_copyElements 21 [21, 5, 184, 0, 44, 177] := bysAt_of (by decide +kernel)
theorem dX3_copyElements_21 : decode cX3_copyElements 21 = .ok (.iload 5, 2) := o_21 (bg_dX3_copyElements_21 0 21 rfl) (bg_dX3_copyElements_21 1 5 rfl)
theorem dX3_copyElements_23 : decode cX3_copyElements 23 = .ok (.invokestatic 44, 3) := o_184 (bg_dX3_copyElements_21 2 184 rfl) (bg_dX3_copyElements_21 3 0 rfl) (bg_dX3_copyElements_21 4 44 rfl)
theorem dX3_copyElements_26 : decode cX3_copyElements 26 = .ok (.return_, 1) := o_177 (bg_dX3_copyElements_21 5 177 rfl)
theorem bg_dX6_coinIfFallen_0 : bysAt cX6_coinIfFallen 0 [42, 180, 0, 10, 27, 16, 8, 182, 0, 159, 54, 6, 42, 180, 0, 10, 27, 16, 8, 4, 182, 0, 162, 42, 180, 0, 28] := bysAt_of (by decide +kernel)
theorem dX6_coinIfFallen_0 : decode cX6_coinIfFallen 0 = .ok (.aload_n 0, 1) := o_42 (bg_dX6_coinIfFallen_0 0 42 rfl)
theorem dX6_coinIfFallen_1 : decode cX6_coinIfFallen 1 = .ok (.getfield 10, 3) := o_180 (bg_dX6_coinIfFallen_0 1 180 rfl) (bg_dX6_coinIfFallen_0 2 0 rfl) (bg_dX6_coinIfFallen_0 3 10 rfl)
theorem dX6_coinIfFallen_4 : decode cX6_coinIfFallen 4 = .ok (.iload_n 1, 1) := o_27 (bg_dX6_coinIfFallen_0 4 27 rfl)
theorem dX6_coinIfFallen_5 : decode cX6_coinIfFallen 5 = .ok (.bipush 8, 2) := o_16 (bg_dX6_coinIfFallen_0 5 16 rfl) (bg_dX6_coinIfFallen_0 6 8 rfl) (by decide +kernel)
theorem dX6_coinIfFallen_7 : decode cX6_coinIfFallen 7 = .ok (.invokevirtual 159, 3) := o_182 (bg_dX6_coinIfFallen_0 7 182 rfl) (bg_dX6_coinIfFallen_0 8 0 rfl) (bg_dX6_coinIfFallen_0 9 159 rfl)
theorem dX6_coinIfFallen_10 : decode cX6_coinIfFallen 10 = .ok (.istore 6, 2) := o_54 (bg_dX6_coinIfFallen_0 10 54 rfl) (bg_dX6_coinIfFallen_0 11 6 rfl)
theorem dX6_coinIfFallen_12 : decode cX6_coinIfFallen 12 = .ok (.aload_n 0, 1) := o_42 (bg_dX6_coinIfFallen_0 12 42 rfl)
theorem dX6_coinIfFallen_13 : decode cX6_coinIfFallen 13 = .ok (.getfield 10, 3) := o_180 (bg_dX6_coinIfFallen_0 13 180 rfl) (bg_dX6_coinIfFallen_0 14 0 rfl) (bg_dX6_coinIfFallen_0 15 10 rfl)
theorem dX6_coinIfFallen_16 : decode cX6_coinIfFallen 16 = .ok (.iload_n 1, 1) := o_27 (bg_dX6_coinIfFallen_0 16 27 rfl)
theorem dX6_coinIfFallen_17 : decode cX6_coinIfFallen 17 = .ok (.bipush 8, 2) := o_16 (bg_dX6_coinIfFallen_0 17 16 rfl) (bg_dX6_coinIfFallen_0 18 8 rfl) (by decide +kernel)
theorem dX6_coinIfFallen_19 : decode cX6_coinIfFallen 19 = .ok (.iconst 1, 1) := o_4 (bg_dX6_coinIfFallen_0 19 4 rfl)
theorem dX6_coinIfFallen_20 : decode cX6_coinIfFallen 20 = .ok (.invokevirtual 162, 3) := o_182 (bg_dX6_coinIfFallen_0 20 182 rfl) (bg_dX6_coinIfFallen_0 21 0 rfl) (bg_dX6_coinIfFallen_0 22 162 rfl)
theorem dX6_coinIfFallen_23 : decode cX6_coinIfFallen 23 = .ok (.aload_n 0, 1) := o_42 (bg_dX6_coinIfFallen_0 23 42 rfl)
theorem dX6_coinIfFallen_24 : decode cX6_coinIfFallen 24 = .ok (.getfield 28, 3) := o_180 (bg_dX6_coinIfFallen_0 24 180 rfl) (bg_dX6_coinIfFallen_0 25 0 rfl) (bg_dX6_coinIfFallen_0 26 28 rfl)
theorem bg_dX6_coinIfFallen_27 : bysAt cX6_coinIfFallen 27 [28, 29, 21, 4, 21, 5, 4, 182, 0, 242, 54, 7, 42, 180, 0, 10, 27, 16, 8, 21, 6, 182, 0, 162, 21, 7] := bysAt_of (by decide +kernel)
theorem dX6_coinIfFallen_27 : decode cX6_coinIfFallen 27 = .ok (.iload_n 2, 1) := o_28 (bg_dX6_coinIfFallen_27 0 28 rfl)
theorem dX6_coinIfFallen_28 : decode cX6_coinIfFallen 28 = .ok (.iload_n 3, 1) := o_29 (bg_dX6_coinIfFallen_27 1 29 rfl)
theorem dX6_coinIfFallen_29 : decode cX6_coinIfFallen 29 = .ok (.iload 4, 2) := o_21 (bg_dX6_coinIfFallen_27 2 21 rfl) (bg_dX6_coinIfFallen_27 3 4 rfl)
theorem dX6_coinIfFallen_31 : decode cX6_coinIfFallen 31 = .ok (.iload 5, 2) := o_21 (bg_dX6_coinIfFallen_27 4 21 rfl) (bg_dX6_coinIfFallen_27 5 5 rfl)
theorem dX6_coinIfFallen_33 : decode cX6_coinIfFallen 33 = .ok (.iconst 1, 1) := o_4 (bg_dX6_coinIfFallen_27 6 4 rfl)
theorem dX6_coinIfFallen_34 : decode cX6_coinIfFallen 34 = .ok (.invokevirtual 242, 3) := o_182 (bg_dX6_coinIfFallen_27 7 182 rfl) (bg_dX6_coinIfFallen_27 8 0 rfl) (bg_dX6_coinIfFallen_27 9 242 rfl)
theorem dX6_coinIfFallen_37 : decode cX6_coinIfFallen 37 = .ok (.istore 7, 2) := o_54 (bg_dX6_coinIfFallen_27 10 54 rfl) (bg_dX6_coinIfFallen_27 11 7 rfl)
theorem dX6_coinIfFallen_39 : decode cX6_coinIfFallen 39 = .ok (.aload_n 0, 1) := o_42 (bg_dX6_coinIfFallen_27 12 42 rfl)
theorem dX6_coinIfFallen_40 : decode cX6_coinIfFallen 40 = .ok (.getfield 10, 3) := o_180 (bg_dX6_coinIfFallen_27 13 180 rfl) (bg_dX6_coinIfFallen_27 14 0 rfl) (bg_dX6_coinIfFallen_27 15 10 rfl)
theorem dX6_coinIfFallen_43 : decode cX6_coinIfFallen 43 = .ok (.iload_n 1, 1) := o_27 (bg_dX6_coinIfFallen_27 16 27 rfl)
theorem dX6_coinIfFallen_44 : decode cX6_coinIfFallen 44 = .ok (.bipush 8, 2) := o_16 (bg_dX6_coinIfFallen_27 17 16 rfl) (bg_dX6_coinIfFallen_27 18 8 rfl) (by decide +kernel)
theorem dX6_coinIfFallen_46 : decode cX6_coinIfFallen 46 = .ok (.iload 6, 2) := o_21 (bg_dX6_coinIfFallen_27 19 21 rfl) (bg_dX6_coinIfFallen_27 20 6 rfl)
theorem dX6_coinIfFallen_48 : decode cX6_coinIfFallen 48 = .ok (.invokevirtual 162, 3) := o_182 (bg_dX6_coinIfFallen_27 21 182 rfl) (bg_dX6_coinIfFallen_27 22 0 rfl) (bg_dX6_coinIfFallen_27 23 162 rfl)
theorem dX6_coinIfFallen_51 : decode cX6_coinIfFallen 51 = .ok (.iload 7, 2) := o_21 (bg_dX6_coinIfFallen_27 24 21 rfl) (bg_dX6_coinIfFallen_27 25 7 rfl)
theorem bg_dX6_coinIfFallen_53 : bysAt cX6_coinIfFallen 53 [172] := bysAt_of (by decide +kernel)
theorem dX6_coinIfFallen_53 : decode cX6_coinIfFallen 53 = .ok (.ireturn, 1) := o_172 (bg_dX6_coinIfFallen_53 0 172 rfl)
theorem bg_dX6_findBest_0 : bysAt cX6_findBest 0 [42, 180, 0, 59, 5, 18, 255, 79, 3, 62, 29, 42, 180, 0, 10, 180, 1, 17, 5, 46, 162, 0, 98] := bysAt_of (by decide +kernel)
theorem dX6_findBest_0 : decode cX6_findBest 0 = .ok (.aload_n 0, 1) := o_42 (bg_dX6_findBest_0 0 42 rfl)
theorem dX6_findBest_1 : decode cX6_findBest 1 = .ok (.getfield 59, 3) := o_180 (bg_dX6_findBest_0 1 180 rfl) (bg_dX6_findBest_0 2 0 rfl) (bg_dX6_findBest_0 3 59 rfl)
theorem dX6_findBest_4 : decode cX6_findBest 4 = .ok (.iconst 2, 1) := o_5 (bg_dX6_findBest_0 4 5 rfl)
theorem dX6_findBest_5 : decode cX6_findBest 5 = .ok (.ldc 255, 2) := o_18 (bg_dX6_findBest_0 5 18 rfl) (bg_dX6_findBest_0 6 255 rfl)
theorem dX6_findBest_7 : decode cX6_findBest 7 = .ok (.iastore, 1) := o_79 (bg_dX6_findBest_0 7 79 rfl)
theorem dX6_findBest_8 : decode cX6_findBest 8 = .ok (.iconst 0, 1) := o_3 (bg_dX6_findBest_0 8 3 rfl)
theorem dX6_findBest_9 : decode cX6_findBest 9 = .ok (.istore_n 3, 1) := o_62 (bg_dX6_findBest_0 9 62 rfl)
theorem dX6_findBest_10 : decode cX6_findBest 10 = .ok (.iload_n 3, 1) := o_29 (bg_dX6_findBest_0 10 29 rfl)
theorem dX6_findBest_11 : decode cX6_findBest 11 = .ok (.aload_n 0, 1) := o_42 (bg_dX6_findBest_0 11 42 rfl)
theorem dX6_findBest_12 : decode cX6_findBest 12 = .ok (.getfield 10, 3) := o_180 (bg_dX6_findBest_0 12 180 rfl) (bg_dX6_findBest_0 13 0 rfl) (bg_dX6_findBest_0 14 10 rfl)
theorem dX6_findBest_15 : decode cX6_findBest 15 = .ok (.getfield 273, 3) := o_180 (bg_dX6_findBest_0 15 180 rfl) (bg_dX6_findBest_0 16 1 rfl) (bg_dX6_findBest_0 17 17 rfl)
theorem dX6_findBest_18 : decode cX6_findBest 18 = .ok (.iconst 2, 1) := o_5 (bg_dX6_findBest_0 18 5 rfl)
theorem dX6_findBest_19 : decode cX6_findBest 19 = .ok (.iaload, 1) := o_46 (bg_dX6_findBest_0 19 46 rfl)
theorem dX6_findBest_20 : decode cX6_findBest 20 = .ok (.if_icmp .ge 98, 3) := o_162 (bg_dX6_findBest_0 20 162 rfl) (bg_dX6_findBest_0 21 0 rfl) (bg_dX6_findBest_0 22 98 rfl) (by decide +kernel)
theorem bg_dX6_findBest_23 : bysAt cX6_findBest 23 [3, 54, 4, 21, 4, 42, 180, 0, 10, 182, 1, 26, 162, 0, 77, 42, 180, 0, 10, 21, 4, 4, 182, 1, 77, 42, 180, 0, 59] := bysAt_of (by decide +kernel)
theorem dX6_findBest_23 : decode cX6_findBest 23 = .ok (.iconst 0, 1) := o_3 (bg_dX6_findBest_23 0 3 rfl)
theorem dX6_findBest_24 : decode cX6_findBest 24 = .ok (.istore 4, 2) := o_54 (bg_dX6_findBest_23 1 54 rfl) (bg_dX6_findBest_23 2 4 rfl)
theorem dX6_findBest_26 : decode cX6_findBest 26 = .ok (.iload 4, 2) := o_21 (bg_dX6_findBest_23 3 21 rfl) (bg_dX6_findBest_23 4 4 rfl)
theorem dX6_findBest_28 : decode cX6_findBest 28 = .ok (.aload_n 0, 1) := o_42 (bg_dX6_findBest_23 5 42 rfl)
theorem dX6_findBest_29 : decode cX6_findBest 29 = .ok (.getfield 10, 3) := o_180 (bg_dX6_findBest_23 6 180 rfl) (bg_dX6_findBest_23 7 0 rfl) (bg_dX6_findBest_23 8 10 rfl)
theorem dX6_findBest_32 : decode cX6_findBest 32 = .ok (.invokevirtual 282, 3) := o_182 (bg_dX6_findBest_23 9 182 rfl) (bg_dX6_findBest_23 10 1 rfl) (bg_dX6_findBest_23 11 26 rfl)
theorem dX6_findBest_35 : decode cX6_findBest 35 = .ok (.if_icmp .ge 77, 3) := o_162 (bg_dX6_findBest_23 12 162 rfl) (bg_dX6_findBest_23 13 0 rfl) (bg_dX6_findBest_23 14 77 rfl) (by decide +kernel)
theorem dX6_findBest_38 : decode cX6_findBest 38 = .ok (.aload_n 0, 1) := o_42 (bg_dX6_findBest_23 15 42 rfl)
theorem dX6_findBest_39 : decode cX6_findBest 39 = .ok (.getfield 10, 3) := o_180 (bg_dX6_findBest_23 16 180 rfl) (bg_dX6_findBest_23 17 0 rfl) (bg_dX6_findBest_23 18 10 rfl)
theorem dX6_findBest_42 : decode cX6_findBest 42 = .ok (.iload 4, 2) := o_21 (bg_dX6_findBest_23 19 21 rfl) (bg_dX6_findBest_23 20 4 rfl)
theorem dX6_findBest_44 : decode cX6_findBest 44 = .ok (.iconst 1, 1) := o_4 (bg_dX6_findBest_23 21 4 rfl)
theorem dX6_findBest_45 : decode cX6_findBest 45 = .ok (.invokevirtual 333, 3) := o_182 (bg_dX6_findBest_23 22 182 rfl) (bg_dX6_findBest_23 23 1 rfl) (bg_dX6_findBest_23 24 77 rfl)
theorem dX6_findBest_48 : decode cX6_findBest 48 = .ok (.aload_n 0, 1) := o_42 (bg_dX6_findBest_23 25 42 rfl)
theorem dX6_findBest_49 : decode cX6_findBest 49 = .ok (.getfield 59, 3) := o_180 (bg_dX6_findBest_23 26 180 rfl) (bg_dX6_findBest_23 27 0 rfl) (bg_dX6_findBest_23 28 59 rfl)
theorem bg_dX6_findBest_52 : bysAt cX6_findBest 52 [5, 46, 162, 0, 52, 42, 180, 0, 28, 29, 21, 4, 27, 28, 4, 182, 0, 242, 54, 5, 21, 5, 42] := bysAt_of (by decide +kernel)
theorem dX6_findBest_52 : decode cX6_findBest 52 = .ok (.iconst 2, 1) := o_5 (bg_dX6_findBest_52 0 5 rfl)
theorem dX6_findBest_53 : decode cX6_findBest 53 = .ok (.iaload, 1) := o_46 (bg_dX6_findBest_52 1 46 rfl)
theorem dX6_findBest_54 : decode cX6_findBest 54 = .ok (.if_icmp .ge 52, 3) := o_162 (bg_dX6_findBest_52 2 162 rfl) (bg_dX6_findBest_52 3 0 rfl) (bg_dX6_findBest_52 4 52 rfl) (by decide +kernel)
theorem dX6_findBest_57 : decode cX6_findBest 57 = .ok (.aload_n 0, 1) := o_42 (bg_dX6_findBest_52 5 42 rfl)
theorem dX6_findBest_58 : decode cX6_findBest 58 = .ok (.getfield 28, 3) := o_180 (bg_dX6_findBest_52 6 180 rfl) (bg_dX6_findBest_52 7 0 rfl) (bg_dX6_findBest_52 8 28 rfl)
theorem dX6_findBest_61 : decode cX6_findBest 61 = .ok (.iload_n 3, 1) := o_29 (bg_dX6_findBest_52 9 29 rfl)
theorem dX6_findBest_62 : decode cX6_findBest 62 = .ok (.iload 4, 2) := o_21 (bg_dX6_findBest_52 10 21 rfl) (bg_dX6_findBest_52 11 4 rfl)
theorem dX6_findBest_64 : decode cX6_findBest 64 = .ok (.iload_n 1, 1) := o_27 (bg_dX6_findBest_52 12 27 rfl)
theorem dX6_findBest_65 : decode cX6_findBest 65 = .ok (.iload_n 2, 1) := o_28 (bg_dX6_findBest_52 13 28 rfl)
theorem dX6_findBest_66 : decode cX6_findBest 66 = .ok (.iconst 1, 1) := o_4 (bg_dX6_findBest_52 14 4 rfl)
theorem dX6_findBest_67 : decode cX6_findBest 67 = .ok (.invokevirtual 242, 3) := o_182 (bg_dX6_findBest_52 15 182 rfl) (bg_dX6_findBest_52 16 0 rfl) (bg_dX6_findBest_52 17 242 rfl)
theorem dX6_findBest_70 : decode cX6_findBest 70 = .ok (.istore 5, 2) := o_54 (bg_dX6_findBest_52 18 54 rfl) (bg_dX6_findBest_52 19 5 rfl)
theorem dX6_findBest_72 : decode cX6_findBest 72 = .ok (.iload 5, 2) := o_21 (bg_dX6_findBest_52 20 21 rfl) (bg_dX6_findBest_52 21 5 rfl)
theorem dX6_findBest_74 : decode cX6_findBest 74 = .ok (.aload_n 0, 1) := o_42 (bg_dX6_findBest_52 22 42 rfl)
theorem bg_dX6_findBest_75 : bysAt cX6_findBest 75 [180, 0, 59, 5, 46, 162, 0, 26, 42, 180, 0, 59, 3, 29, 79, 42, 180, 0, 59, 4, 21, 4, 79] := bysAt_of (by decide +kernel)
theorem dX6_findBest_75 : decode cX6_findBest 75 = .ok (.getfield 59, 3) := o_180 (bg_dX6_findBest_75 0 180 rfl) (bg_dX6_findBest_75 1 0 rfl) (bg_dX6_findBest_75 2 59 rfl)
theorem dX6_findBest_78 : decode cX6_findBest 78 = .ok (.iconst 2, 1) := o_5 (bg_dX6_findBest_75 3 5 rfl)
theorem dX6_findBest_79 : decode cX6_findBest 79 = .ok (.iaload, 1) := o_46 (bg_dX6_findBest_75 4 46 rfl)
theorem dX6_findBest_80 : decode cX6_findBest 80 = .ok (.if_icmp .ge 26, 3) := o_162 (bg_dX6_findBest_75 5 162 rfl) (bg_dX6_findBest_75 6 0 rfl) (bg_dX6_findBest_75 7 26 rfl) (by decide +kernel)
theorem dX6_findBest_83 : decode cX6_findBest 83 = .ok (.aload_n 0, 1) := o_42 (bg_dX6_findBest_75 8 42 rfl)
theorem dX6_findBest_84 : decode cX6_findBest 84 = .ok (.getfield 59, 3) := o_180 (bg_dX6_findBest_75 9 180 rfl) (bg_dX6_findBest_75 10 0 rfl) (bg_dX6_findBest_75 11 59 rfl)
theorem dX6_findBest_87 : decode cX6_findBest 87 = .ok (.iconst 0, 1) := o_3 (bg_dX6_findBest_75 12 3 rfl)
theorem dX6_findBest_88 : decode cX6_findBest 88 = .ok (.iload_n 3, 1) := o_29 (bg_dX6_findBest_75 13 29 rfl)
theorem dX6_findBest_89 : decode cX6_findBest 89 = .ok (.iastore, 1) := o_79 (bg_dX6_findBest_75 14 79 rfl)
theorem dX6_findBest_90 : decode cX6_findBest 90 = .ok (.aload_n 0, 1) := o_42 (bg_dX6_findBest_75 15 42 rfl)
theorem dX6_findBest_91 : decode cX6_findBest 91 = .ok (.getfield 59, 3) := o_180 (bg_dX6_findBest_75 16 180 rfl) (bg_dX6_findBest_75 17 0 rfl) (bg_dX6_findBest_75 18 59 rfl)
theorem dX6_findBest_94 : decode cX6_findBest 94 = .ok (.iconst 1, 1) := o_4 (bg_dX6_findBest_75 19 4 rfl)
theorem dX6_findBest_95 : decode cX6_findBest 95 = .ok (.iload 4, 2) := o_21 (bg_dX6_findBest_75 20 21 rfl) (bg_dX6_findBest_75 21 4 rfl)
theorem dX6_findBest_97 : decode cX6_findBest 97 = .ok (.iastore, 1) := o_79 (bg_dX6_findBest_75 22 79 rfl)
theorem bg_dX6_findBest_98 : bysAt cX6_findBest 98 [42, 180, 0, 59, 5, 21, 5, 79, 132, 4, 1, 167, 255, 173, 132, 3, 1, 167, 255, 151, 177] := bysAt_of (by decide +kernel)
theorem dX6_findBest_98 : decode cX6_findBest 98 = .ok (.aload_n 0, 1) := o_42 (bg_dX6_findBest_98 0 42 rfl)
theorem dX6_findBest_99 : decode cX6_findBest 99 = .ok (.getfield 59, 3) := o_180 (bg_dX6_findBest_98 1 180 rfl) (bg_dX6_findBest_98 2 0 rfl) (bg_dX6_findBest_98 3 59 rfl)
theorem dX6_findBest_102 : decode cX6_findBest 102 = .ok (.iconst 2, 1) := o_5 (bg_dX6_findBest_98 4 5 rfl)
theorem dX6_findBest_103 : decode cX6_findBest 103 = .ok (.iload 5, 2) := o_21 (bg_dX6_findBest_98 5 21 rfl) (bg_dX6_findBest_98 6 5 rfl)
theorem dX6_findBest_105 : decode cX6_findBest 105 = .ok (.iastore, 1) := o_79 (bg_dX6_findBest_98 7 79 rfl)
theorem dX6_findBest_109 : decode cX6_findBest 109 = .ok (.goto (-83), 3) := o_167 (bg_dX6_findBest_98 11 167 rfl) (bg_dX6_findBest_98 12 255 rfl) (bg_dX6_findBest_98 13 173 rfl) (by decide +kernel)
theorem dX6_findBest_115 : decode cX6_findBest 115 = .ok (.goto (-105), 3) := o_167 (bg_dX6_findBest_98 17 167 rfl) (bg_dX6_findBest_98 18 255 rfl) (bg_dX6_findBest_98 19 151 rfl) (by decide +kernel)
theorem dX6_findBest_118 : decode cX6_findBest 118 = .ok (.return_, 1) := o_177 (bg_dX6_findBest_98 20 177 rfl)
theorem bg_dX6_firstWrong_0 : bysAt cX6_firstWrong 0 [42, 180, 0, 28, 27, 182, 1, 70, 3, 54, 4, 21, 4, 29, 162, 0, 32, 42, 180, 0, 28, 42, 180, 0, 35, 28] := bysAt_of (by decide +kernel)
theorem dX6_firstWrong_0 : decode cX6_firstWrong 0 = .ok (.aload_n 0, 1) := o_42 (bg_dX6_firstWrong_0 0 42 rfl)
theorem dX6_firstWrong_1 : decode cX6_firstWrong 1 = .ok (.getfield 28, 3) := o_180 (bg_dX6_firstWrong_0 1 180 rfl) (bg_dX6_firstWrong_0 2 0 rfl) (bg_dX6_firstWrong_0 3 28 rfl)
theorem dX6_firstWrong_4 : decode cX6_firstWrong 4 = .ok (.iload_n 1, 1) := o_27 (bg_dX6_firstWrong_0 4 27 rfl)
theorem dX6_firstWrong_5 : decode cX6_firstWrong 5 = .ok (.invokevirtual 326, 3) := o_182 (bg_dX6_firstWrong_0 5 182 rfl) (bg_dX6_firstWrong_0 6 1 rfl) (bg_dX6_firstWrong_0 7 70 rfl)
theorem dX6_firstWrong_8 : decode cX6_firstWrong 8 = .ok (.iconst 0, 1) := o_3 (bg_dX6_firstWrong_0 8 3 rfl)
theorem dX6_firstWrong_9 : decode cX6_firstWrong 9 = .ok (.istore 4, 2) := o_54 (bg_dX6_firstWrong_0 9 54 rfl) (bg_dX6_firstWrong_0 10 4 rfl)
theorem dX6_firstWrong_11 : decode cX6_firstWrong 11 = .ok (.iload 4, 2) := o_21 (bg_dX6_firstWrong_0 11 21 rfl) (bg_dX6_firstWrong_0 12 4 rfl)
theorem dX6_firstWrong_13 : decode cX6_firstWrong 13 = .ok (.iload_n 3, 1) := o_29 (bg_dX6_firstWrong_0 13 29 rfl)
theorem dX6_firstWrong_14 : decode cX6_firstWrong 14 = .ok (.if_icmp .ge 32, 3) := o_162 (bg_dX6_firstWrong_0 14 162 rfl) (bg_dX6_firstWrong_0 15 0 rfl) (bg_dX6_firstWrong_0 16 32 rfl) (by decide +kernel)
theorem dX6_firstWrong_17 : decode cX6_firstWrong 17 = .ok (.aload_n 0, 1) := o_42 (bg_dX6_firstWrong_0 17 42 rfl)
theorem dX6_firstWrong_18 : decode cX6_firstWrong 18 = .ok (.getfield 28, 3) := o_180 (bg_dX6_firstWrong_0 18 180 rfl) (bg_dX6_firstWrong_0 19 0 rfl) (bg_dX6_firstWrong_0 20 28 rfl)
theorem dX6_firstWrong_21 : decode cX6_firstWrong 21 = .ok (.aload_n 0, 1) := o_42 (bg_dX6_firstWrong_0 21 42 rfl)
theorem dX6_firstWrong_22 : decode cX6_firstWrong 22 = .ok (.getfield 35, 3) := o_180 (bg_dX6_firstWrong_0 22 180 rfl) (bg_dX6_firstWrong_0 23 0 rfl) (bg_dX6_firstWrong_0 24 35 rfl)
theorem dX6_firstWrong_25 : decode cX6_firstWrong 25 = .ok (.iload_n 2, 1) := o_28 (bg_dX6_firstWrong_0 25 28 rfl)
theorem bg_dX6_firstWrong_26 : bysAt cX6_firstWrong 26 [21, 4, 182, 0, 105, 182, 1, 73, 154, 0, 6, 21, 4, 172, 132, 4, 1, 167, 255, 224, 2, 172] := bysAt_of (by decide +kernel)
theorem dX6_firstWrong_26 : decode cX6_firstWrong 26 = .ok (.iload 4, 2) := o_21 (bg_dX6_firstWrong_26 0 21 rfl) (bg_dX6_firstWrong_26 1 4 rfl)
theorem dX6_firstWrong_28 : decode cX6_firstWrong 28 = .ok (.invokevirtual 105, 3) := o_182 (bg_dX6_firstWrong_26 2 182 rfl) (bg_dX6_firstWrong_26 3 0 rfl) (bg_dX6_firstWrong_26 4 105 rfl)
theorem dX6_firstWrong_31 : decode cX6_firstWrong 31 = .ok (.invokevirtual 329, 3) := o_182 (bg_dX6_firstWrong_26 5 182 rfl) (bg_dX6_firstWrong_26 6 1 rfl) (bg_dX6_firstWrong_26 7 73 rfl)
theorem dX6_firstWrong_34 : decode cX6_firstWrong 34 = .ok (.ifCond .ne 6, 3) := o_154 (bg_dX6_firstWrong_26 8 154 rfl) (bg_dX6_firstWrong_26 9 0 rfl) (bg_dX6_firstWrong_26 10 6 rfl) (by decide +kernel)
theorem dX6_firstWrong_37 : decode cX6_firstWrong 37 = .ok (.iload 4, 2) := o_21 (bg_dX6_firstWrong_26 11 21 rfl) (bg_dX6_firstWrong_26 12 4 rfl)
theorem dX6_firstWrong_39 : decode cX6_firstWrong 39 = .ok (.ireturn, 1) := o_172 (bg_dX6_firstWrong_26 13 172 rfl)
theorem dX6_firstWrong_43 : decode cX6_firstWrong 43 = .ok (.goto (-32), 3) := o_167 (bg_dX6_firstWrong_26 17 167 rfl) (bg_dX6_firstWrong_26 18 255 rfl) (bg_dX6_firstWrong_26 19 224 rfl) (by decide +kernel)
theorem dX6_firstWrong_46 : decode cX6_firstWrong 46 = .ok (.iconst (-1), 1) := o_2 (bg_dX6_firstWrong_26 20 2 rfl)
theorem dX6_firstWrong_47 : decode cX6_firstWrong 47 = .ok (.ireturn, 1) := o_172 (bg_dX6_firstWrong_26 21 172 rfl)
theorem bg_dX6_isBridge_0 : bysAt cX6_isBridge 0 [27, 3, 42, 180, 0, 10, 180, 1, 17, 4, 46, 4, 100, 184, 0, 66, 172] := bysAt_of (by decide +kernel)
theorem dX6_isBridge_0 : decode cX6_isBridge 0 = .ok (.iload_n 1, 1) := o_27 (bg_dX6_isBridge_0 0 27 rfl)
theorem dX6_isBridge_1 : decode cX6_isBridge 1 = .ok (.iconst 0, 1) := o_3 (bg_dX6_isBridge_0 1 3 rfl)
theorem dX6_isBridge_2 : decode cX6_isBridge 2 = .ok (.aload_n 0, 1) := o_42 (bg_dX6_isBridge_0 2 42 rfl)
theorem dX6_isBridge_3 : decode cX6_isBridge 3 = .ok (.getfield 10, 3) := o_180 (bg_dX6_isBridge_0 3 180 rfl) (bg_dX6_isBridge_0 4 0 rfl) (bg_dX6_isBridge_0 5 10 rfl)
theorem dX6_isBridge_6 : decode cX6_isBridge 6 = .ok (.getfield 273, 3) := o_180 (bg_dX6_isBridge_0 6 180 rfl) (bg_dX6_isBridge_0 7 1 rfl) (bg_dX6_isBridge_0 8 17 rfl)
theorem dX6_isBridge_9 : decode cX6_isBridge 9 = .ok (.iconst 1, 1) := o_4 (bg_dX6_isBridge_0 9 4 rfl)
theorem dX6_isBridge_10 : decode cX6_isBridge 10 = .ok (.iaload, 1) := o_46 (bg_dX6_isBridge_0 10 46 rfl)
theorem dX6_isBridge_11 : decode cX6_isBridge 11 = .ok (.iconst 1, 1) := o_4 (bg_dX6_isBridge_0 11 4 rfl)
theorem dX6_isBridge_12 : decode cX6_isBridge 12 = .ok (.isub, 1) := o_100 (bg_dX6_isBridge_0 12 100 rfl)
theorem dX6_isBridge_13 : decode cX6_isBridge 13 = .ok (.invokestatic 66, 3) := o_184 (bg_dX6_isBridge_0 13 184 rfl) (bg_dX6_isBridge_0 14 0 rfl) (bg_dX6_isBridge_0 15 66 rfl)
theorem dX6_isBridge_16 : decode cX6_isBridge 16 = .ok (.ireturn, 1) := o_172 (bg_dX6_isBridge_0 16 172 rfl)
theorem bg_dX6_isJourney_0 : bysAt cX6_isJourney 0 [42, 27, 28, 182, 0, 200, 153, 0, 22, 29, 184, 0, 126, 153, 0, 15, 21, 4, 184, 0, 126, 153, 0, 7, 4, 167, 0, 4, 3] := bysAt_of (by decide +kernel)
theorem dX6_isJourney_0 : decode cX6_isJourney 0 = .ok (.aload_n 0, 1) := o_42 (bg_dX6_isJourney_0 0 42 rfl)
theorem dX6_isJourney_1 : decode cX6_isJourney 1 = .ok (.iload_n 1, 1) := o_27 (bg_dX6_isJourney_0 1 27 rfl)
theorem dX6_isJourney_2 : decode cX6_isJourney 2 = .ok (.iload_n 2, 1) := o_28 (bg_dX6_isJourney_0 2 28 rfl)
theorem dX6_isJourney_3 : decode cX6_isJourney 3 = .ok (.invokevirtual 200, 3) := o_182 (bg_dX6_isJourney_0 3 182 rfl) (bg_dX6_isJourney_0 4 0 rfl) (bg_dX6_isJourney_0 5 200 rfl)
theorem dX6_isJourney_6 : decode cX6_isJourney 6 = .ok (.ifCond .eq 22, 3) := o_153 (bg_dX6_isJourney_0 6 153 rfl) (bg_dX6_isJourney_0 7 0 rfl) (bg_dX6_isJourney_0 8 22 rfl) (by decide +kernel)
theorem dX6_isJourney_9 : decode cX6_isJourney 9 = .ok (.iload_n 3, 1) := o_29 (bg_dX6_isJourney_0 9 29 rfl)
theorem dX6_isJourney_10 : decode cX6_isJourney 10 = .ok (.invokestatic 126, 3) := o_184 (bg_dX6_isJourney_0 10 184 rfl) (bg_dX6_isJourney_0 11 0 rfl) (bg_dX6_isJourney_0 12 126 rfl)
theorem dX6_isJourney_13 : decode cX6_isJourney 13 = .ok (.ifCond .eq 15, 3) := o_153 (bg_dX6_isJourney_0 13 153 rfl) (bg_dX6_isJourney_0 14 0 rfl) (bg_dX6_isJourney_0 15 15 rfl) (by decide +kernel)
theorem dX6_isJourney_16 : decode cX6_isJourney 16 = .ok (.iload 4, 2) := o_21 (bg_dX6_isJourney_0 16 21 rfl) (bg_dX6_isJourney_0 17 4 rfl)
theorem dX6_isJourney_18 : decode cX6_isJourney 18 = .ok (.invokestatic 126, 3) := o_184 (bg_dX6_isJourney_0 18 184 rfl) (bg_dX6_isJourney_0 19 0 rfl) (bg_dX6_isJourney_0 20 126 rfl)
theorem dX6_isJourney_21 : decode cX6_isJourney 21 = .ok (.ifCond .eq 7, 3) := o_153 (bg_dX6_isJourney_0 21 153 rfl) (bg_dX6_isJourney_0 22 0 rfl) (bg_dX6_isJourney_0 23 7 rfl) (by decide +kernel)
theorem dX6_isJourney_24 : decode cX6_isJourney 24 = .ok (.iconst 1, 1) := o_4 (bg_dX6_isJourney_0 24 4 rfl)
theorem dX6_isJourney_25 : decode cX6_isJourney 25 = .ok (.goto 4, 3) := o_167 (bg_dX6_isJourney_0 25 167 rfl) (bg_dX6_isJourney_0 26 0 rfl) (bg_dX6_isJourney_0 27 4 rfl) (by decide +kernel)
theorem dX6_isJourney_28 : decode cX6_isJourney 28 = .ok (.iconst 0, 1) := o_3 (bg_dX6_isJourney_0 28 3 rfl)
theorem bg_dX6_isJourney_29 : bysAt cX6_isJourney 29 [172] := bysAt_of (by decide +kernel)
theorem dX6_isJourney_29 : decode cX6_isJourney 29 = .ok (.ireturn, 1) := o_172 (bg_dX6_isJourney_29 0 172 rfl)
theorem bg_dX6_isPack_0 : bysAt cX6_isPack 0 [42, 27, 182, 0, 194, 153, 0, 24, 28, 3, 42, 180, 0, 10, 182, 1, 26, 4, 100, 184, 0, 66, 153, 0, 7, 4] := bysAt_of (by decide +kernel)
theorem dX6_isPack_0 : decode cX6_isPack 0 = .ok (.aload_n 0, 1) := o_42 (bg_dX6_isPack_0 0 42 rfl)
theorem dX6_isPack_1 : decode cX6_isPack 1 = .ok (.iload_n 1, 1) := o_27 (bg_dX6_isPack_0 1 27 rfl)
theorem dX6_isPack_2 : decode cX6_isPack 2 = .ok (.invokevirtual 194, 3) := o_182 (bg_dX6_isPack_0 2 182 rfl) (bg_dX6_isPack_0 3 0 rfl) (bg_dX6_isPack_0 4 194 rfl)
theorem dX6_isPack_5 : decode cX6_isPack 5 = .ok (.ifCond .eq 24, 3) := o_153 (bg_dX6_isPack_0 5 153 rfl) (bg_dX6_isPack_0 6 0 rfl) (bg_dX6_isPack_0 7 24 rfl) (by decide +kernel)
theorem dX6_isPack_8 : decode cX6_isPack 8 = .ok (.iload_n 2, 1) := o_28 (bg_dX6_isPack_0 8 28 rfl)
theorem dX6_isPack_9 : decode cX6_isPack 9 = .ok (.iconst 0, 1) := o_3 (bg_dX6_isPack_0 9 3 rfl)
theorem dX6_isPack_10 : decode cX6_isPack 10 = .ok (.aload_n 0, 1) := o_42 (bg_dX6_isPack_0 10 42 rfl)
theorem dX6_isPack_11 : decode cX6_isPack 11 = .ok (.getfield 10, 3) := o_180 (bg_dX6_isPack_0 11 180 rfl) (bg_dX6_isPack_0 12 0 rfl) (bg_dX6_isPack_0 13 10 rfl)
theorem dX6_isPack_14 : decode cX6_isPack 14 = .ok (.invokevirtual 282, 3) := o_182 (bg_dX6_isPack_0 14 182 rfl) (bg_dX6_isPack_0 15 1 rfl) (bg_dX6_isPack_0 16 26 rfl)
theorem dX6_isPack_17 : decode cX6_isPack 17 = .ok (.iconst 1, 1) := o_4 (bg_dX6_isPack_0 17 4 rfl)
theorem dX6_isPack_18 : decode cX6_isPack 18 = .ok (.isub, 1) := o_100 (bg_dX6_isPack_0 18 100 rfl)
theorem dX6_isPack_19 : decode cX6_isPack 19 = .ok (.invokestatic 66, 3) := o_184 (bg_dX6_isPack_0 19 184 rfl) (bg_dX6_isPack_0 20 0 rfl) (bg_dX6_isPack_0 21 66 rfl)
theorem dX6_isPack_22 : decode cX6_isPack 22 = .ok (.ifCond .eq 7, 3) := o_153 (bg_dX6_isPack_0 22 153 rfl) (bg_dX6_isPack_0 23 0 rfl) (bg_dX6_isPack_0 24 7 rfl) (by decide +kernel)
theorem dX6_isPack_25 : decode cX6_isPack 25 = .ok (.iconst 1, 1) := o_4 (bg_dX6_isPack_0 25 4 rfl)
theorem bg_dX6_isPack_26 : bysAt cX6_isPack 26 [167, 0, 4, 3, 172] := bysAt_of (by decide +kernel)
theorem dX6_isPack_26 : decode cX6_isPack 26 = .ok (.goto 4, 3) := o_167 (bg_dX6_isPack_26 0 167 rfl) (bg_dX6_isPack_26 1 0 rfl) (bg_dX6_isPack_26 2 4 rfl) (by decide +kernel)
theorem dX6_isPack_29 : decode cX6_isPack 29 = .ok (.iconst 0, 1) := o_3 (bg_dX6_isPack_26 3 3 rfl)
theorem dX6_isPack_30 : decode cX6_isPack 30 = .ok (.ireturn, 1) := o_172 (bg_dX6_isPack_26 4 172 rfl)
theorem bg_dX6_isRoad_0 : bysAt cX6_isRoad 0 [27, 3, 42, 180, 0, 10, 180, 1, 17, 3, 46, 4, 100, 184, 0, 66, 172] := bysAt_of (by decide +kernel)
theorem dX6_isRoad_0 : decode cX6_isRoad 0 = .ok (.iload_n 1, 1) := o_27 (bg_dX6_isRoad_0 0 27 rfl)
theorem dX6_isRoad_1 : decode cX6_isRoad 1 = .ok (.iconst 0, 1) := o_3 (bg_dX6_isRoad_0 1 3 rfl)
theorem dX6_isRoad_2 : decode cX6_isRoad 2 = .ok (.aload_n 0, 1) := o_42 (bg_dX6_isRoad_0 2 42 rfl)
theorem dX6_isRoad_3 : decode cX6_isRoad 3 = .ok (.getfield 10, 3) := o_180 (bg_dX6_isRoad_0 3 180 rfl) (bg_dX6_isRoad_0 4 0 rfl) (bg_dX6_isRoad_0 5 10 rfl)
theorem dX6_isRoad_6 : decode cX6_isRoad 6 = .ok (.getfield 273, 3) := o_180 (bg_dX6_isRoad_0 6 180 rfl) (bg_dX6_isRoad_0 7 1 rfl) (bg_dX6_isRoad_0 8 17 rfl)
theorem dX6_isRoad_9 : decode cX6_isRoad 9 = .ok (.iconst 0, 1) := o_3 (bg_dX6_isRoad_0 9 3 rfl)
theorem dX6_isRoad_10 : decode cX6_isRoad 10 = .ok (.iaload, 1) := o_46 (bg_dX6_isRoad_0 10 46 rfl)
theorem dX6_isRoad_11 : decode cX6_isRoad 11 = .ok (.iconst 1, 1) := o_4 (bg_dX6_isRoad_0 11 4 rfl)
theorem dX6_isRoad_12 : decode cX6_isRoad 12 = .ok (.isub, 1) := o_100 (bg_dX6_isRoad_0 12 100 rfl)
theorem dX6_isRoad_13 : decode cX6_isRoad 13 = .ok (.invokestatic 66, 3) := o_184 (bg_dX6_isRoad_0 13 184 rfl) (bg_dX6_isRoad_0 14 0 rfl) (bg_dX6_isRoad_0 15 66 rfl)
theorem dX6_isRoad_16 : decode cX6_isRoad 16 = .ok (.ireturn, 1) := o_172 (bg_dX6_isRoad_0 16 172 rfl)
theorem bg_dX6_isWaggon_0 : bysAt cX6_isWaggon 0 [27, 3, 42, 180, 0, 10, 180, 1, 17, 5, 46, 4, 100, 184, 0, 66, 172] := bysAt_of (by decide +kernel)
theorem dX6_isWaggon_0 : decode cX6_isWaggon 0 = .ok (.iload_n 1, 1) := o_27 (bg_dX6_isWaggon_0 0 27 rfl)
theorem dX6_isWaggon_1 : decode cX6_isWaggon 1 = .ok (.iconst 0, 1) := o_3 (bg_dX6_isWaggon_0 1 3 rfl)
theorem dX6_isWaggon_2 : decode cX6_isWaggon 2 = .ok (.aload_n 0, 1) := o_42 (bg_dX6_isWaggon_0 2 42 rfl)
theorem dX6_isWaggon_3 : decode cX6_isWaggon 3 = .ok (.getfield 10, 3) := o_180 (bg_dX6_isWaggon_0 3 180 rfl) (bg_dX6_isWaggon_0 4 0 rfl) (bg_dX6_isWaggon_0 5 10 rfl)
theorem dX6_isWaggon_6 : decode cX6_isWaggon 6 = .ok (.getfield 273, 3) := o_180 (bg_dX6_isWaggon_0 6 180 rfl) (bg_dX6_isWaggon_0 7 1 rfl) (bg_dX6_isWaggon_0 8 17 rfl)
theorem dX6_isWaggon_9 : decode cX6_isWaggon 9 = .ok (.iconst 2, 1) := o_5 (bg_dX6_isWaggon_0 9 5 rfl)
theorem dX6_isWaggon_10 : decode cX6_isWaggon 10 = .ok (.iaload, 1) := o_46 (bg_dX6_isWaggon_0 10 46 rfl)
theorem dX6_isWaggon_11 : decode cX6_isWaggon 11 = .ok (.iconst 1, 1) := o_4 (bg_dX6_isWaggon_0 11 4 rfl)
theorem dX6_isWaggon_12 : decode cX6_isWaggon 12 = .ok (.isub, 1) := o_100 (bg_dX6_isWaggon_0 12 100 rfl)
theorem dX6_isWaggon_13 : decode cX6_isWaggon 13 = .ok (.invokestatic 66, 3) := o_184 (bg_dX6_isWaggon_0 13 184 rfl) (bg_dX6_isWaggon_0 14 0 rfl) (bg_dX6_isWaggon_0 15 66 rfl)
theorem dX6_isWaggon_16 : decode cX6_isWaggon 16 = .ok (.ireturn, 1) := o_172 (bg_dX6_isWaggon_0 16 172 rfl)
theorem bg_dX6_orStuck_0 : bysAt cX6_orStuck 0 [27, 18, 255, 160, 0, 12, 42, 16, 251, 182, 0, 70, 167, 0, 4, 27, 172] := bysAt_of (by decide +kernel)
theorem dX6_orStuck_0 : decode cX6_orStuck 0 = .ok (.iload_n 1, 1) := o_27 (bg_dX6_orStuck_0 0 27 rfl)
theorem dX6_orStuck_1 : decode cX6_orStuck 1 = .ok (.ldc 255, 2) := o_18 (bg_dX6_orStuck_0 1 18 rfl) (bg_dX6_orStuck_0 2 255 rfl)
theorem dX6_orStuck_3 : decode cX6_orStuck 3 = .ok (.if_icmp .ne 12, 3) := o_160 (bg_dX6_orStuck_0 3 160 rfl) (bg_dX6_orStuck_0 4 0 rfl) (bg_dX6_orStuck_0 5 12 rfl) (by decide +kernel)
theorem dX6_orStuck_6 : decode cX6_orStuck 6 = .ok (.aload_n 0, 1) := o_42 (bg_dX6_orStuck_0 6 42 rfl)
theorem dX6_orStuck_7 : decode cX6_orStuck 7 = .ok (.bipush (-5), 2) := o_16 (bg_dX6_orStuck_0 7 16 rfl) (bg_dX6_orStuck_0 8 251 rfl) (by decide +kernel)
theorem dX6_orStuck_9 : decode cX6_orStuck 9 = .ok (.invokevirtual 70, 3) := o_182 (bg_dX6_orStuck_0 9 182 rfl) (bg_dX6_orStuck_0 10 0 rfl) (bg_dX6_orStuck_0 11 70 rfl)
theorem dX6_orStuck_12 : decode cX6_orStuck 12 = .ok (.goto 4, 3) := o_167 (bg_dX6_orStuck_0 12 167 rfl) (bg_dX6_orStuck_0 13 0 rfl) (bg_dX6_orStuck_0 14 4 rfl) (by decide +kernel)
theorem dX6_orStuck_15 : decode cX6_orStuck 15 = .ok (.iload_n 1, 1) := o_27 (bg_dX6_orStuck_0 15 27 rfl)
theorem dX6_orStuck_16 : decode cX6_orStuck 16 = .ok (.ireturn, 1) := o_172 (bg_dX6_orStuck_0 16 172 rfl)
theorem bg_dX6_refuse_0 : bysAt cX6_refuse 0 [16, 254, 27, 100, 61, 28, 3, 7, 184, 0, 66, 153, 0, 13, 42, 180, 0, 55, 28, 92, 46] := bysAt_of (by decide +kernel)
theorem dX6_refuse_0 : decode cX6_refuse 0 = .ok (.bipush (-2), 2) := o_16 (bg_dX6_refuse_0 0 16 rfl) (bg_dX6_refuse_0 1 254 rfl) (by decide +kernel)
theorem dX6_refuse_2 : decode cX6_refuse 2 = .ok (.iload_n 1, 1) := o_27 (bg_dX6_refuse_0 2 27 rfl)
theorem dX6_refuse_3 : decode cX6_refuse 3 = .ok (.isub, 1) := o_100 (bg_dX6_refuse_0 3 100 rfl)
theorem dX6_refuse_4 : decode cX6_refuse 4 = .ok (.istore_n 2, 1) := o_61 (bg_dX6_refuse_0 4 61 rfl)
theorem dX6_refuse_5 : decode cX6_refuse 5 = .ok (.iload_n 2, 1) := o_28 (bg_dX6_refuse_0 5 28 rfl)
theorem dX6_refuse_6 : decode cX6_refuse 6 = .ok (.iconst 0, 1) := o_3 (bg_dX6_refuse_0 6 3 rfl)
theorem dX6_refuse_7 : decode cX6_refuse 7 = .ok (.iconst 4, 1) := o_7 (bg_dX6_refuse_0 7 7 rfl)
theorem dX6_refuse_8 : decode cX6_refuse 8 = .ok (.invokestatic 66, 3) := o_184 (bg_dX6_refuse_0 8 184 rfl) (bg_dX6_refuse_0 9 0 rfl) (bg_dX6_refuse_0 10 66 rfl)
theorem dX6_refuse_11 : decode cX6_refuse 11 = .ok (.ifCond .eq 13, 3) := o_153 (bg_dX6_refuse_0 11 153 rfl) (bg_dX6_refuse_0 12 0 rfl) (bg_dX6_refuse_0 13 13 rfl) (by decide +kernel)
theorem dX6_refuse_14 : decode cX6_refuse 14 = .ok (.aload_n 0, 1) := o_42 (bg_dX6_refuse_0 14 42 rfl)
theorem dX6_refuse_15 : decode cX6_refuse 15 = .ok (.getfield 55, 3) := o_180 (bg_dX6_refuse_0 15 180 rfl) (bg_dX6_refuse_0 16 0 rfl) (bg_dX6_refuse_0 17 55 rfl)
theorem dX6_refuse_18 : decode cX6_refuse 18 = .ok (.iload_n 2, 1) := o_28 (bg_dX6_refuse_0 18 28 rfl)
theorem dX6_refuse_19 : decode cX6_refuse 19 = .ok (.dup2, 1) := o_92 (bg_dX6_refuse_0 19 92 rfl)
theorem dX6_refuse_20 : decode cX6_refuse 20 = .ok (.iaload, 1) := o_46 (bg_dX6_refuse_0 20 46 rfl)
theorem bg_dX6_refuse_21 : bysAt cX6_refuse 21 [4, 96, 79, 27, 172] := bysAt_of (by decide +kernel)
theorem dX6_refuse_21 : decode cX6_refuse 21 = .ok (.iconst 1, 1) := o_4 (bg_dX6_refuse_21 0 4 rfl)
theorem dX6_refuse_22 : decode cX6_refuse 22 = .ok (.iadd, 1) := o_96 (bg_dX6_refuse_21 1 96 rfl)
theorem dX6_refuse_23 : decode cX6_refuse 23 = .ok (.iastore, 1) := o_79 (bg_dX6_refuse_21 2 79 rfl)
theorem dX6_refuse_24 : decode cX6_refuse 24 = .ok (.iload_n 1, 1) := o_27 (bg_dX6_refuse_21 3 27 rfl)
theorem dX6_refuse_25 : decode cX6_refuse 25 = .ok (.ireturn, 1) := o_172 (bg_dX6_refuse_21 4 172 rfl)
theorem bg_dX6_spoken_0 : bysAt cX6_spoken 0 [28] := bysAt_of (by decide +kernel)
theorem dX6_spoken_0 : decode cX6_spoken 0 = .ok (.iload_n 2, 1) := o_28 (bg_dX6_spoken_0 0 28 rfl)
theorem bg_dX6_spoken_36 : bysAt cX6_spoken 36 [42, 180, 0, 10, 27, 3, 182, 0, 159, 172, 42, 180, 0, 10, 27, 182, 0, 191, 172, 42, 180, 0, 10, 27] := bysAt_of (by decide +kernel)
theorem dX6_spoken_36 : decode cX6_spoken 36 = .ok (.aload_n 0, 1) := o_42 (bg_dX6_spoken_36 0 42 rfl)
theorem dX6_spoken_37 : decode cX6_spoken 37 = .ok (.getfield 10, 3) := o_180 (bg_dX6_spoken_36 1 180 rfl) (bg_dX6_spoken_36 2 0 rfl) (bg_dX6_spoken_36 3 10 rfl)
theorem dX6_spoken_40 : decode cX6_spoken 40 = .ok (.iload_n 1, 1) := o_27 (bg_dX6_spoken_36 4 27 rfl)
theorem dX6_spoken_41 : decode cX6_spoken 41 = .ok (.iconst 0, 1) := o_3 (bg_dX6_spoken_36 5 3 rfl)
theorem dX6_spoken_42 : decode cX6_spoken 42 = .ok (.invokevirtual 159, 3) := o_182 (bg_dX6_spoken_36 6 182 rfl) (bg_dX6_spoken_36 7 0 rfl) (bg_dX6_spoken_36 8 159 rfl)
theorem dX6_spoken_45 : decode cX6_spoken 45 = .ok (.ireturn, 1) := o_172 (bg_dX6_spoken_36 9 172 rfl)
theorem dX6_spoken_46 : decode cX6_spoken 46 = .ok (.aload_n 0, 1) := o_42 (bg_dX6_spoken_36 10 42 rfl)
theorem dX6_spoken_47 : decode cX6_spoken 47 = .ok (.getfield 10, 3) := o_180 (bg_dX6_spoken_36 11 180 rfl) (bg_dX6_spoken_36 12 0 rfl) (bg_dX6_spoken_36 13 10 rfl)
theorem dX6_spoken_50 : decode cX6_spoken 50 = .ok (.iload_n 1, 1) := o_27 (bg_dX6_spoken_36 14 27 rfl)
theorem dX6_spoken_51 : decode cX6_spoken 51 = .ok (.invokevirtual 191, 3) := o_182 (bg_dX6_spoken_36 15 182 rfl) (bg_dX6_spoken_36 16 0 rfl) (bg_dX6_spoken_36 17 191 rfl)
theorem dX6_spoken_54 : decode cX6_spoken 54 = .ok (.ireturn, 1) := o_172 (bg_dX6_spoken_36 18 172 rfl)
theorem dX6_spoken_55 : decode cX6_spoken 55 = .ok (.aload_n 0, 1) := o_42 (bg_dX6_spoken_36 19 42 rfl)
theorem dX6_spoken_56 : decode cX6_spoken 56 = .ok (.getfield 10, 3) := o_180 (bg_dX6_spoken_36 20 180 rfl) (bg_dX6_spoken_36 21 0 rfl) (bg_dX6_spoken_36 22 10 rfl)
theorem dX6_spoken_59 : decode cX6_spoken 59 = .ok (.iload_n 1, 1) := o_27 (bg_dX6_spoken_36 23 27 rfl)
theorem bg_dX6_spoken_60 : bysAt cX6_spoken 60 [5, 182, 0, 159, 172, 42, 180, 0, 10, 27, 16, 9, 182, 0, 159, 172, 42, 180, 0, 10, 27, 42, 180, 0, 10] := bysAt_of (by decide +kernel)
theorem dX6_spoken_60 : decode cX6_spoken 60 = .ok (.iconst 2, 1) := o_5 (bg_dX6_spoken_60 0 5 rfl)
theorem dX6_spoken_61 : decode cX6_spoken 61 = .ok (.invokevirtual 159, 3) := o_182 (bg_dX6_spoken_60 1 182 rfl) (bg_dX6_spoken_60 2 0 rfl) (bg_dX6_spoken_60 3 159 rfl)
theorem dX6_spoken_64 : decode cX6_spoken 64 = .ok (.ireturn, 1) := o_172 (bg_dX6_spoken_60 4 172 rfl)
theorem dX6_spoken_65 : decode cX6_spoken 65 = .ok (.aload_n 0, 1) := o_42 (bg_dX6_spoken_60 5 42 rfl)
theorem dX6_spoken_66 : decode cX6_spoken 66 = .ok (.getfield 10, 3) := o_180 (bg_dX6_spoken_60 6 180 rfl) (bg_dX6_spoken_60 7 0 rfl) (bg_dX6_spoken_60 8 10 rfl)
theorem dX6_spoken_69 : decode cX6_spoken 69 = .ok (.iload_n 1, 1) := o_27 (bg_dX6_spoken_60 9 27 rfl)
theorem dX6_spoken_70 : decode cX6_spoken 70 = .ok (.bipush 9, 2) := o_16 (bg_dX6_spoken_60 10 16 rfl) (bg_dX6_spoken_60 11 9 rfl) (by decide +kernel)
theorem dX6_spoken_72 : decode cX6_spoken 72 = .ok (.invokevirtual 159, 3) := o_182 (bg_dX6_spoken_60 12 182 rfl) (bg_dX6_spoken_60 13 0 rfl) (bg_dX6_spoken_60 14 159 rfl)
theorem dX6_spoken_75 : decode cX6_spoken 75 = .ok (.ireturn, 1) := o_172 (bg_dX6_spoken_60 15 172 rfl)
theorem dX6_spoken_76 : decode cX6_spoken 76 = .ok (.aload_n 0, 1) := o_42 (bg_dX6_spoken_60 16 42 rfl)
theorem dX6_spoken_77 : decode cX6_spoken 77 = .ok (.getfield 10, 3) := o_180 (bg_dX6_spoken_60 17 180 rfl) (bg_dX6_spoken_60 18 0 rfl) (bg_dX6_spoken_60 19 10 rfl)
theorem dX6_spoken_80 : decode cX6_spoken 80 = .ok (.iload_n 1, 1) := o_27 (bg_dX6_spoken_60 20 27 rfl)
theorem dX6_spoken_81 : decode cX6_spoken 81 = .ok (.aload_n 0, 1) := o_42 (bg_dX6_spoken_60 21 42 rfl)
theorem dX6_spoken_82 : decode cX6_spoken 82 = .ok (.getfield 10, 3) := o_180 (bg_dX6_spoken_60 22 180 rfl) (bg_dX6_spoken_60 23 0 rfl) (bg_dX6_spoken_60 24 10 rfl)
theorem bg_dX6_spoken_85 : bysAt cX6_spoken 85 [27, 182, 0, 184, 182, 0, 187, 172] := bysAt_of (by decide +kernel)
theorem dX6_spoken_85 : decode cX6_spoken 85 = .ok (.iload_n 1, 1) := o_27 (bg_dX6_spoken_85 0 27 rfl)
theorem dX6_spoken_86 : decode cX6_spoken 86 = .ok (.invokevirtual 184, 3) := o_182 (bg_dX6_spoken_85 1 182 rfl) (bg_dX6_spoken_85 2 0 rfl) (bg_dX6_spoken_85 3 184 rfl)
theorem dX6_spoken_89 : decode cX6_spoken 89 = .ok (.invokevirtual 187, 3) := o_182 (bg_dX6_spoken_85 4 182 rfl) (bg_dX6_spoken_85 5 0 rfl) (bg_dX6_spoken_85 6 187 rfl)
theorem dX6_spoken_92 : decode cX6_spoken 92 = .ok (.ireturn, 1) := o_172 (bg_dX6_spoken_85 7 172 rfl)
theorem bg_dX6_whyNoRow_0 : bysAt cX6_whyNoRow 0 [27, 184, 0, 62, 154, 0, 6, 16, 254, 172, 42, 180, 0, 35, 27, 182, 0, 88, 153, 0, 6, 16, 253, 172, 42, 180, 0, 35] := bysAt_of (by decide +kernel)
theorem dX6_whyNoRow_0 : decode cX6_whyNoRow 0 = .ok (.iload_n 1, 1) := o_27 (bg_dX6_whyNoRow_0 0 27 rfl)
theorem dX6_whyNoRow_1 : decode cX6_whyNoRow 1 = .ok (.invokestatic 62, 3) := o_184 (bg_dX6_whyNoRow_0 1 184 rfl) (bg_dX6_whyNoRow_0 2 0 rfl) (bg_dX6_whyNoRow_0 3 62 rfl)
theorem dX6_whyNoRow_4 : decode cX6_whyNoRow 4 = .ok (.ifCond .ne 6, 3) := o_154 (bg_dX6_whyNoRow_0 4 154 rfl) (bg_dX6_whyNoRow_0 5 0 rfl) (bg_dX6_whyNoRow_0 6 6 rfl) (by decide +kernel)
theorem dX6_whyNoRow_7 : decode cX6_whyNoRow 7 = .ok (.bipush (-2), 2) := o_16 (bg_dX6_whyNoRow_0 7 16 rfl) (bg_dX6_whyNoRow_0 8 254 rfl) (by decide +kernel)
theorem dX6_whyNoRow_9 : decode cX6_whyNoRow 9 = .ok (.ireturn, 1) := o_172 (bg_dX6_whyNoRow_0 9 172 rfl)
theorem dX6_whyNoRow_10 : decode cX6_whyNoRow 10 = .ok (.aload_n 0, 1) := o_42 (bg_dX6_whyNoRow_0 10 42 rfl)
theorem dX6_whyNoRow_11 : decode cX6_whyNoRow 11 = .ok (.getfield 35, 3) := o_180 (bg_dX6_whyNoRow_0 11 180 rfl) (bg_dX6_whyNoRow_0 12 0 rfl) (bg_dX6_whyNoRow_0 13 35 rfl)
theorem dX6_whyNoRow_14 : decode cX6_whyNoRow 14 = .ok (.iload_n 1, 1) := o_27 (bg_dX6_whyNoRow_0 14 27 rfl)
theorem dX6_whyNoRow_15 : decode cX6_whyNoRow 15 = .ok (.invokevirtual 88, 3) := o_182 (bg_dX6_whyNoRow_0 15 182 rfl) (bg_dX6_whyNoRow_0 16 0 rfl) (bg_dX6_whyNoRow_0 17 88 rfl)
theorem dX6_whyNoRow_18 : decode cX6_whyNoRow 18 = .ok (.ifCond .eq 6, 3) := o_153 (bg_dX6_whyNoRow_0 18 153 rfl) (bg_dX6_whyNoRow_0 19 0 rfl) (bg_dX6_whyNoRow_0 20 6 rfl) (by decide +kernel)
theorem dX6_whyNoRow_21 : decode cX6_whyNoRow 21 = .ok (.bipush (-3), 2) := o_16 (bg_dX6_whyNoRow_0 21 16 rfl) (bg_dX6_whyNoRow_0 22 253 rfl) (by decide +kernel)
theorem dX6_whyNoRow_23 : decode cX6_whyNoRow 23 = .ok (.ireturn, 1) := o_172 (bg_dX6_whyNoRow_0 23 172 rfl)
theorem dX6_whyNoRow_24 : decode cX6_whyNoRow 24 = .ok (.aload_n 0, 1) := o_42 (bg_dX6_whyNoRow_0 24 42 rfl)
theorem dX6_whyNoRow_25 : decode cX6_whyNoRow 25 = .ok (.getfield 35, 3) := o_180 (bg_dX6_whyNoRow_0 25 180 rfl) (bg_dX6_whyNoRow_0 26 0 rfl) (bg_dX6_whyNoRow_0 27 35 rfl)
theorem bg_dX6_whyNoRow_28 : bysAt cX6_whyNoRow 28 [27, 182, 0, 95, 153, 0, 8, 16, 252, 167, 0, 4, 3, 172] := bysAt_of (by decide +kernel)
theorem dX6_whyNoRow_28 : decode cX6_whyNoRow 28 = .ok (.iload_n 1, 1) := o_27 (bg_dX6_whyNoRow_28 0 27 rfl)
theorem dX6_whyNoRow_29 : decode cX6_whyNoRow 29 = .ok (.invokevirtual 95, 3) := o_182 (bg_dX6_whyNoRow_28 1 182 rfl) (bg_dX6_whyNoRow_28 2 0 rfl) (bg_dX6_whyNoRow_28 3 95 rfl)
theorem dX6_whyNoRow_32 : decode cX6_whyNoRow 32 = .ok (.ifCond .eq 8, 3) := o_153 (bg_dX6_whyNoRow_28 4 153 rfl) (bg_dX6_whyNoRow_28 5 0 rfl) (bg_dX6_whyNoRow_28 6 8 rfl) (by decide +kernel)
theorem dX6_whyNoRow_35 : decode cX6_whyNoRow 35 = .ok (.bipush (-4), 2) := o_16 (bg_dX6_whyNoRow_28 7 16 rfl) (bg_dX6_whyNoRow_28 8 252 rfl) (by decide +kernel)
theorem dX6_whyNoRow_37 : decode cX6_whyNoRow 37 = .ok (.goto 4, 3) := o_167 (bg_dX6_whyNoRow_28 9 167 rfl) (bg_dX6_whyNoRow_28 10 0 rfl) (bg_dX6_whyNoRow_28 11 4 rfl) (by decide +kernel)
theorem dX6_whyNoRow_40 : decode cX6_whyNoRow 40 = .ok (.iconst 0, 1) := o_3 (bg_dX6_whyNoRow_28 12 3 rfl)
theorem dX6_whyNoRow_41 : decode cX6_whyNoRow 41 = .ok (.ireturn, 1) := o_172 (bg_dX6_whyNoRow_28 13 172 rfl)
theorem bg_dX6_whyNotTold_0 : bysAt cX6_whyNotTold 0 [42, 27, 28, 182, 0, 200, 153, 0, 29, 29, 184, 0, 126, 153, 0, 22, 21, 4, 184, 0, 62, 153, 0, 14, 21, 5, 3, 16, 20] := bysAt_of (by decide +kernel)
theorem dX6_whyNotTold_0 : decode cX6_whyNotTold 0 = .ok (.aload_n 0, 1) := o_42 (bg_dX6_whyNotTold_0 0 42 rfl)
theorem dX6_whyNotTold_1 : decode cX6_whyNotTold 1 = .ok (.iload_n 1, 1) := o_27 (bg_dX6_whyNotTold_0 1 27 rfl)
theorem dX6_whyNotTold_2 : decode cX6_whyNotTold 2 = .ok (.iload_n 2, 1) := o_28 (bg_dX6_whyNotTold_0 2 28 rfl)
theorem dX6_whyNotTold_3 : decode cX6_whyNotTold 3 = .ok (.invokevirtual 200, 3) := o_182 (bg_dX6_whyNotTold_0 3 182 rfl) (bg_dX6_whyNotTold_0 4 0 rfl) (bg_dX6_whyNotTold_0 5 200 rfl)
theorem dX6_whyNotTold_6 : decode cX6_whyNotTold 6 = .ok (.ifCond .eq 29, 3) := o_153 (bg_dX6_whyNotTold_0 6 153 rfl) (bg_dX6_whyNotTold_0 7 0 rfl) (bg_dX6_whyNotTold_0 8 29 rfl) (by decide +kernel)
theorem dX6_whyNotTold_9 : decode cX6_whyNotTold 9 = .ok (.iload_n 3, 1) := o_29 (bg_dX6_whyNotTold_0 9 29 rfl)
theorem dX6_whyNotTold_10 : decode cX6_whyNotTold 10 = .ok (.invokestatic 126, 3) := o_184 (bg_dX6_whyNotTold_0 10 184 rfl) (bg_dX6_whyNotTold_0 11 0 rfl) (bg_dX6_whyNotTold_0 12 126 rfl)
theorem dX6_whyNotTold_13 : decode cX6_whyNotTold 13 = .ok (.ifCond .eq 22, 3) := o_153 (bg_dX6_whyNotTold_0 13 153 rfl) (bg_dX6_whyNotTold_0 14 0 rfl) (bg_dX6_whyNotTold_0 15 22 rfl) (by decide +kernel)
theorem dX6_whyNotTold_16 : decode cX6_whyNotTold 16 = .ok (.iload 4, 2) := o_21 (bg_dX6_whyNotTold_0 16 21 rfl) (bg_dX6_whyNotTold_0 17 4 rfl)
theorem dX6_whyNotTold_18 : decode cX6_whyNotTold 18 = .ok (.invokestatic 62, 3) := o_184 (bg_dX6_whyNotTold_0 18 184 rfl) (bg_dX6_whyNotTold_0 19 0 rfl) (bg_dX6_whyNotTold_0 20 62 rfl)
theorem dX6_whyNotTold_21 : decode cX6_whyNotTold 21 = .ok (.ifCond .eq 14, 3) := o_153 (bg_dX6_whyNotTold_0 21 153 rfl) (bg_dX6_whyNotTold_0 22 0 rfl) (bg_dX6_whyNotTold_0 23 14 rfl) (by decide +kernel)
theorem dX6_whyNotTold_24 : decode cX6_whyNotTold 24 = .ok (.iload 5, 2) := o_21 (bg_dX6_whyNotTold_0 24 21 rfl) (bg_dX6_whyNotTold_0 25 5 rfl)
theorem dX6_whyNotTold_26 : decode cX6_whyNotTold 26 = .ok (.iconst 0, 1) := o_3 (bg_dX6_whyNotTold_0 26 3 rfl)
theorem dX6_whyNotTold_27 : decode cX6_whyNotTold 27 = .ok (.bipush 20, 2) := o_16 (bg_dX6_whyNotTold_0 27 16 rfl) (bg_dX6_whyNotTold_0 28 20 rfl) (by decide +kernel)
theorem bg_dX6_whyNotTold_29 : bysAt cX6_whyNotTold 29 [184, 0, 66, 154, 0, 6, 16, 254, 172, 42, 21, 4, 182, 0, 78, 54, 6, 21, 6, 153, 0, 6, 21, 6, 172, 21, 5, 42] := bysAt_of (by decide +kernel)
theorem dX6_whyNotTold_29 : decode cX6_whyNotTold 29 = .ok (.invokestatic 66, 3) := o_184 (bg_dX6_whyNotTold_29 0 184 rfl) (bg_dX6_whyNotTold_29 1 0 rfl) (bg_dX6_whyNotTold_29 2 66 rfl)
theorem dX6_whyNotTold_32 : decode cX6_whyNotTold 32 = .ok (.ifCond .ne 6, 3) := o_154 (bg_dX6_whyNotTold_29 3 154 rfl) (bg_dX6_whyNotTold_29 4 0 rfl) (bg_dX6_whyNotTold_29 5 6 rfl) (by decide +kernel)
theorem dX6_whyNotTold_35 : decode cX6_whyNotTold 35 = .ok (.bipush (-2), 2) := o_16 (bg_dX6_whyNotTold_29 6 16 rfl) (bg_dX6_whyNotTold_29 7 254 rfl) (by decide +kernel)
theorem dX6_whyNotTold_37 : decode cX6_whyNotTold 37 = .ok (.ireturn, 1) := o_172 (bg_dX6_whyNotTold_29 8 172 rfl)
theorem dX6_whyNotTold_38 : decode cX6_whyNotTold 38 = .ok (.aload_n 0, 1) := o_42 (bg_dX6_whyNotTold_29 9 42 rfl)
theorem dX6_whyNotTold_39 : decode cX6_whyNotTold 39 = .ok (.iload 4, 2) := o_21 (bg_dX6_whyNotTold_29 10 21 rfl) (bg_dX6_whyNotTold_29 11 4 rfl)
theorem dX6_whyNotTold_41 : decode cX6_whyNotTold 41 = .ok (.invokevirtual 78, 3) := o_182 (bg_dX6_whyNotTold_29 12 182 rfl) (bg_dX6_whyNotTold_29 13 0 rfl) (bg_dX6_whyNotTold_29 14 78 rfl)
theorem dX6_whyNotTold_44 : decode cX6_whyNotTold 44 = .ok (.istore 6, 2) := o_54 (bg_dX6_whyNotTold_29 15 54 rfl) (bg_dX6_whyNotTold_29 16 6 rfl)
theorem dX6_whyNotTold_46 : decode cX6_whyNotTold 46 = .ok (.iload 6, 2) := o_21 (bg_dX6_whyNotTold_29 17 21 rfl) (bg_dX6_whyNotTold_29 18 6 rfl)
theorem dX6_whyNotTold_48 : decode cX6_whyNotTold 48 = .ok (.ifCond .eq 6, 3) := o_153 (bg_dX6_whyNotTold_29 19 153 rfl) (bg_dX6_whyNotTold_29 20 0 rfl) (bg_dX6_whyNotTold_29 21 6 rfl) (by decide +kernel)
theorem dX6_whyNotTold_51 : decode cX6_whyNotTold 51 = .ok (.iload 6, 2) := o_21 (bg_dX6_whyNotTold_29 22 21 rfl) (bg_dX6_whyNotTold_29 23 6 rfl)
theorem dX6_whyNotTold_53 : decode cX6_whyNotTold 53 = .ok (.ireturn, 1) := o_172 (bg_dX6_whyNotTold_29 24 172 rfl)
theorem dX6_whyNotTold_54 : decode cX6_whyNotTold 54 = .ok (.iload 5, 2) := o_21 (bg_dX6_whyNotTold_29 25 21 rfl) (bg_dX6_whyNotTold_29 26 5 rfl)
theorem dX6_whyNotTold_56 : decode cX6_whyNotTold 56 = .ok (.aload_n 0, 1) := o_42 (bg_dX6_whyNotTold_29 27 42 rfl)
theorem bg_dX6_whyNotTold_57 : bysAt cX6_whyNotTold 57 [180, 0, 35, 180, 0, 81, 21, 4, 46, 164, 0, 8, 16, 254, 167, 0, 4, 3, 172] := bysAt_of (by decide +kernel)
theorem dX6_whyNotTold_57 : decode cX6_whyNotTold 57 = .ok (.getfield 35, 3) := o_180 (bg_dX6_whyNotTold_57 0 180 rfl) (bg_dX6_whyNotTold_57 1 0 rfl) (bg_dX6_whyNotTold_57 2 35 rfl)
theorem dX6_whyNotTold_60 : decode cX6_whyNotTold 60 = .ok (.getfield 81, 3) := o_180 (bg_dX6_whyNotTold_57 3 180 rfl) (bg_dX6_whyNotTold_57 4 0 rfl) (bg_dX6_whyNotTold_57 5 81 rfl)
theorem dX6_whyNotTold_63 : decode cX6_whyNotTold 63 = .ok (.iload 4, 2) := o_21 (bg_dX6_whyNotTold_57 6 21 rfl) (bg_dX6_whyNotTold_57 7 4 rfl)
theorem dX6_whyNotTold_65 : decode cX6_whyNotTold 65 = .ok (.iaload, 1) := o_46 (bg_dX6_whyNotTold_57 8 46 rfl)
theorem dX6_whyNotTold_66 : decode cX6_whyNotTold 66 = .ok (.if_icmp .le 8, 3) := o_164 (bg_dX6_whyNotTold_57 9 164 rfl) (bg_dX6_whyNotTold_57 10 0 rfl) (bg_dX6_whyNotTold_57 11 8 rfl) (by decide +kernel)
theorem dX6_whyNotTold_69 : decode cX6_whyNotTold 69 = .ok (.bipush (-2), 2) := o_16 (bg_dX6_whyNotTold_57 12 16 rfl) (bg_dX6_whyNotTold_57 13 254 rfl) (by decide +kernel)
theorem dX6_whyNotTold_71 : decode cX6_whyNotTold 71 = .ok (.goto 4, 3) := o_167 (bg_dX6_whyNotTold_57 14 167 rfl) (bg_dX6_whyNotTold_57 15 0 rfl) (bg_dX6_whyNotTold_57 16 4 rfl) (by decide +kernel)
theorem dX6_whyNotTold_74 : decode cX6_whyNotTold 74 = .ok (.iconst 0, 1) := o_3 (bg_dX6_whyNotTold_57 17 3 rfl)
theorem dX6_whyNotTold_75 : decode cX6_whyNotTold 75 = .ok (.ireturn, 1) := o_172 (bg_dX6_whyNotTold_57 18 172 rfl)
theorem pdVX0_setsOfParts : yX0_setsOfParts.cls = RX0 ∧ yX0_setsOfParts.cls ≠ "java/lang/invoke/MethodHandle" ∧ yX0_setsOfParts.cls ≠ "java/lang/invoke/VarHandle" ∧ (parseMethodDescriptor yX0_setsOfParts.desc).map (fun d => d.parameters.length) = some 0 := by decide +kernel
theorem pdVX3_elementAt : yX3_elementAt.cls = RX3 ∧ yX3_elementAt.cls ≠ "java/lang/invoke/MethodHandle" ∧ yX3_elementAt.cls ≠ "java/lang/invoke/VarHandle" ∧ (parseMethodDescriptor yX3_elementAt.desc).map (fun d => d.parameters.length) = some 2 := by decide +kernel
theorem pdVX5_leastCoin : yX5_leastCoin.cls = RX5 ∧ yX5_leastCoin.cls ≠ "java/lang/invoke/MethodHandle" ∧ yX5_leastCoin.cls ≠ "java/lang/invoke/VarHandle" ∧ (parseMethodDescriptor yX5_leastCoin.desc).map (fun d => d.parameters.length) = some 5 := by decide +kernel
theorem pdVX5_setOut : yX5_setOut.cls = RX5 ∧ yX5_setOut.cls ≠ "java/lang/invoke/MethodHandle" ∧ yX5_setOut.cls ≠ "java/lang/invoke/VarHandle" ∧ (parseMethodDescriptor yX5_setOut.desc).map (fun d => d.parameters.length) = some 1 := by decide +kernel
theorem pdVX5_walk : yX5_walk.cls = RX5 ∧ yX5_walk.cls ≠ "java/lang/invoke/MethodHandle" ∧ yX5_walk.cls ≠ "java/lang/invoke/VarHandle" ∧ (parseMethodDescriptor yX5_walk.desc).map (fun d => d.parameters.length) = some 1 := by decide +kernel
theorem pdVX6_isPack : yX6_isPack.cls = RX6 ∧ yX6_isPack.cls ≠ "java/lang/invoke/MethodHandle" ∧ yX6_isPack.cls ≠ "java/lang/invoke/VarHandle" ∧ (parseMethodDescriptor yX6_isPack.desc).map (fun d => d.parameters.length) = some 2 := by decide +kernel
theorem pdX6_isPlace : yX6_isPlace.cls ≠ "java/lang/invoke/MethodHandle" ∧ yX6_isPlace.cls ≠ "java/lang/invoke/VarHandle" ∧ (parseMethodDescriptor yX6_isPlace.desc).map (fun d => d.parameters.length) = some 1 := by decide +kernel
theorem pdX6_isShelf : yX6_isShelf.cls ≠ "java/lang/invoke/MethodHandle" ∧ yX6_isShelf.cls ≠ "java/lang/invoke/VarHandle" ∧ (parseMethodDescriptor yX6_isShelf.desc).map (fun d => d.parameters.length) = some 1 := by decide +kernel
theorem pdVX6_isWaggon : yX6_isWaggon.cls = RX6 ∧ yX6_isWaggon.cls ≠ "java/lang/invoke/MethodHandle" ∧ yX6_isWaggon.cls ≠ "java/lang/invoke/VarHandle" ∧ (parseMethodDescriptor yX6_isWaggon.desc).map (fun d => d.parameters.length) = some 1 := by decide +kernel
theorem pdVX6_refuse : yX6_refuse.cls = RX6 ∧ yX6_refuse.cls ≠ "java/lang/invoke/MethodHandle" ∧ yX6_refuse.cls ≠ "java/lang/invoke/VarHandle" ∧ (parseMethodDescriptor yX6_refuse.desc).map (fun d => d.parameters.length) = some 1 := by decide +kernel
theorem pdVX6_whyNoRow : yX6_whyNoRow.cls = RX6 ∧ yX6_whyNoRow.cls ≠ "java/lang/invoke/MethodHandle" ∧ yX6_whyNoRow.cls ≠ "java/lang/invoke/VarHandle" ∧ (parseMethodDescriptor yX6_whyNoRow.desc).map (fun d => d.parameters.length) = some 1 := by decide +kernel
theorem dX6_findBest_106 : decode cX6_findBest 106 = .ok (.iinc 4 1, 3) := by decide +kernel
theorem dX6_findBest_112 : decode cX6_findBest 112 = .ok (.iinc 3 1, 3) := by decide +kernel
theorem dX6_firstWrong_40 : decode cX6_firstWrong 40 = .ok (.iinc 4 1, 3) := by decide +kernel
theorem dX6_spoken_1 : decode cX6_spoken 1 = .ok (.tableswitch 75 0 4 #[35, 45, 45, 54, 64], 35) := by decide +kernel
set_option maxHeartbeats 4000000 in
set_option maxRecDepth 100000 in
theorem c_X3_copyElements (l : Launch) (D : va_G) (E : Nat → ClassId) (G : Nat → Nat) (sz : Nat) (a : Nat → Nat) (C : Nat → va_E) (hT : TyX a E C) (x1 : Int32) (x2 : Int32) (x3 : Int32) (x4 : Int32) (x5 : Int32) (hx1 : rg x1 0 7) (hx2 : rg x2 0 7) (hx3 : rg x3 0 40) (hx4 : rg x4 0 40) (hx5 : rg x5 0 40) (hx3p : x3.toInt + x5.toInt ≤ 40) (hx4p : x4.toInt + x5.toInt ≤ 40) : Met l yX3_copyElements (oh_w yX3_copyElements cX3_copyElements 6 none) ({ frames := 1, cells := 0, slots := 0, locals := 18 }) (oh_Pm D E G [.ref (a 4), .int x1, .int x2, .int x3, .int x4, .int x5] (oh_W 35 a C) sz) (va_Qv (fun (u : Nat → va_E) => TyX a E u ∧ fr [(31, 32)] [] C u ∧ True) (oh_B D (va_A (oh_W 35 a C) sz) (fun u => oh_W 35 a u)) (va_A (oh_W 35 a C) sz)) 0 0 (va_A (oh_W 35 a C) sz) := by
  refine Met.ofW (cc := cX3_copyElements) (maxL := 6) (ret := none) (by decide) rfl ?_
  intro p e s m args below meth c s₁ B hml hv
  obtain ⟨rfl, hsz, hP, hK, hD0, hG⟩ := hv
  have hx := B.exec
  have hb := B.bytes
  have hr := B.returns
  have hts := atoms_spec (ws := (oh_w yX3_copyElements cX3_copyElements 6 none)) B.pre
  have htg : ∀ w ∈ oh_t, w.before _ s = true := fun w h => hts w (List.mem_cons_of_mem _ h)
  have hown : s.vm.findClass RX3 = some m.cls := findClass_of_methodNamed B.named
  have hlocks := B.notSynchronized
  have hT0 := hT
  subst hsz
  have hD := hD0.self (sz := s.heap.size)
  generalize hAe : va_A (oh_W 35 a C) s.heap.size = A at hD hG ⊢
  have hA : ∀ q : Nat, s.heap.size ≤ q → A q := fun q h => by rw [← hAe]; exact Or.inr h
  have hS : va_S A s.heap s.heap [] := va_S.rf
  have hF : fr [(31, 32)] [] C C := fr_rf
  have hl := lv_entry ([.ref (a 4), .int x1, .int x2, .int x3, .int x4, .int x5]) (n := 6) (Nat.le_of_ble_eq_true rfl)
  rw [lg_entry_eq]
  generalize (lg_sl ([.ref (a 4), .int x1, .int x2, .int x3, .int x4, .int x5]) ++ List.replicate (6 - (lg_sl ([.ref (a 4), .int x1, .int x2, .int x3, .int x4, .int x5])).length) Slot.unset).toArray = ls at hl ⊢
  have hl : lv_has ls 6 [(0, .ref (a 4)), (1, .int x1), (2, .int x2), (3, .int x3), (4, .int x4), (5, .int x5)] := hl
  refine oh_genQ (fun Q hQ => ?_)
  refine lv_aload_n hx hb dX3_copyElements_0 rfl (lv_at hl 0 rfl) ?_
  refine va_get (D := D) (ci := 3) (v := .ref (a 31)) (C := RX3) (T := TX3) (N := 3) hx hb htg ig_3 hown hK hP 4 (oh_wg (by decide) (sX_4 hT)) rfl 2 (by decide) (htg _ q_202) (fun _ h9 => h9) rfl dX3_copyElements_1 ?_
  refine lv_iload_n hx hb dX3_copyElements_4 rfl (lv_at hl 1 rfl) ?_
  refine lv_bipush (v := 40) hx hb dX3_copyElements_5 (by decide) ?_
  refine lv_imul hx hb dX3_copyElements_7 ?_
  refine lv_iload_n hx hb dX3_copyElements_8 rfl (lv_at hl 3 rfl) ?_
  refine lv_iadd hx hb dX3_copyElements_9 ?_
  refine lv_aload_n hx hb dX3_copyElements_10 rfl (lv_at hl 0 rfl) ?_
  refine va_get (D := D) (ci := 3) (v := .ref (a 31)) (C := RX3) (T := TX3) (N := 3) hx hb htg ig_3 hown hK hP 4 (oh_wg (by decide) (sX_4 hT)) rfl 2 (by decide) (htg _ q_202) (fun _ h9 => h9) rfl dX3_copyElements_11 ?_
  refine lv_iload_n hx hb dX3_copyElements_14 rfl (lv_at hl 2 rfl) ?_
  refine lv_bipush (v := 40) hx hb dX3_copyElements_15 (by decide) ?_
  refine lv_imul hx hb dX3_copyElements_17 ?_
  refine lv_iload hx hb dX3_copyElements_18 (lv_at hl 4 rfl) ?_
  refine lv_iadd hx hb dX3_copyElements_20 ?_
  refine lv_iload hx hb dX3_copyElements_21 (lv_at hl 5 rfl) ?_
  refine th_copyl (T := TyX a E) (Rl := fr [(31, 32)] [] C) hx hb (by rw [hml]; exact hl.1.symm) hown (htg _ q_345) (htg _ q_347) (htg _ q_346) (htg _ q_74) hK hP hD hS 31 31 (by decide) (by decide) (sX_31 hT) (sX_31 hT) (oh_nn (rg_add (lo := 0) (hi := 320) (rg_mul (lo := 0) (hi := 280) hx1 (rg_c (v := 40) (lo := 40) (hi := 40) (by decide)) (by decide)) hx3 (by decide)) (by decide)) (oh_nn (rg_add (lo := 0) (hi := 320) (rg_mul (lo := 0) (hi := 280) hx2 (rg_c (v := 40) (lo := 40) (hi := 40) (by decide)) (by decide)) hx4 (by decide)) (by decide)) (oh_nn hx5 (by decide)) (oh_cp hx1 hx5 hx3p hx3.1) (oh_cp hx2 hx5 hx4p hx4.1) (hT.up 31 rfl) (fr_st hF (by decide) (by decide)) (Nat.le_of_ble_eq_true rfl) (Nat.le_of_ble_eq_true rfl) dX3_copyElements_23 (fun C_1 H locs e_2 hT hF hP hD hS => ?_)
  have t_3 := hT
  rw [hQ]
  exact W.vret hx hb hr (fun t ht hW => ⟨⟨C_1, rfl, ⟨hT, hF, trivial⟩, ⟨by rw [ht]; exact hP, hD⟩⟩, hS.F ht⟩) hS.2.2 dX3_copyElements_26

set_option maxHeartbeats 4000000 in
set_option maxRecDepth 100000 in
theorem c_X6_refuse (l : Launch) (D : va_G) (E : Nat → ClassId) (G : Nat → Nat) (sz : Nat) (a : Nat → Nat) (C : Nat → va_E) (hT : TyX a E C) (x1 : Int32) : Met l yX6_refuse (oh_w yX6_refuse cX6_refuse 3 (some .int)) ({ frames := 1, cells := 0, slots := 0, locals := 22 }) (oh_Pm D E G [.ref (a 0), .int x1] (oh_W 35 a C) sz) (va_Qi (fun r (u : Nat → va_E) => TyX a E u ∧ fr [(7, 8)] [] C u ∧ r = x1) (oh_B D (va_A (oh_W 35 a C) sz) (fun u => oh_W 35 a u)) (va_A (oh_W 35 a C) sz)) 0 0 (va_A (oh_W 35 a C) sz) := by
  refine Met.ofW (cc := cX6_refuse) (maxL := 3) (ret := (some .int)) (by decide) rfl ?_
  intro p e s m args below meth c s₁ B hml hv
  obtain ⟨rfl, hsz, hP, hK, hD0, hG⟩ := hv
  have hx := B.exec
  have hb := B.bytes
  have hr := B.returns
  have hts := atoms_spec (ws := (oh_w yX6_refuse cX6_refuse 3 (some .int))) B.pre
  have htg : ∀ w ∈ oh_t, w.before _ s = true := fun w h => hts w (List.mem_cons_of_mem _ h)
  have hown : s.vm.findClass RX6 = some m.cls := findClass_of_methodNamed B.named
  have hlocks := B.notSynchronized
  have hT0 := hT
  subst hsz
  have hD := hD0.self (sz := s.heap.size)
  generalize hAe : va_A (oh_W 35 a C) s.heap.size = A at hD hG ⊢
  have hA : ∀ q : Nat, s.heap.size ≤ q → A q := fun q h => by rw [← hAe]; exact Or.inr h
  have hS : va_S A s.heap s.heap [] := va_S.rf
  have hF : fr [(7, 8)] [] C C := fr_rf
  have hl := lv_entry ([.ref (a 0), .int x1]) (n := 3) (Nat.le_of_ble_eq_true rfl)
  rw [lg_entry_eq]
  generalize (lg_sl ([.ref (a 0), .int x1]) ++ List.replicate (3 - (lg_sl ([.ref (a 0), .int x1])).length) Slot.unset).toArray = ls at hl ⊢
  have hl : lv_has ls 3 [(0, .ref (a 0)), (1, .int x1)] := hl
  refine oh_genQ (fun Q hQ => ?_)
  refine lv_bipush (v := (-2)) hx hb dX6_refuse_0 (by decide) ?_
  refine lv_iload_n hx hb dX6_refuse_2 rfl (lv_at hl 1 rfl) ?_
  refine lv_isub hx hb dX6_refuse_3 ?_
  refine lv_istore_n (lv' := [(2, .int ((-2) - x1)), (0, .ref (a 0)), (1, .int x1)]) hx hb dX6_refuse_4 rfl hl (by decide) rfl (fun ls hl => ?_)
  refine lv_iload_n hx hb dX6_refuse_5 rfl (lv_at hl 0 rfl) ?_
  refine lv_iconst (v := 0) hx hb dX6_refuse_6 (by decide) ?_
  refine lv_iconst (v := 4) hx hb dX6_refuse_7 (by decide) ?_
  refine tq_S (As := [.int ((-2) - x1), .int 0, .int 4]) (rest := []) (ws := []) ⟨hx, hb, hml, hown, htg⟩ (c_X6_within l D E G ((-2) - x1) (0 : Int32) (4 : Int32)) (va_cwS 3 htg (oh_gS q_293 q_294 q_66 q_295) rfl rfl rfl pdX6_within ⟨Nat.le_of_ble_eq_true rfl, Nat.le_of_ble_eq_true rfl⟩) hK va_nil hG hS rfl hl.1 rfl (Nat.le_of_ble_eq_true rfl) dX6_refuse_8 ⟨Nat.le_of_ble_eq_true rfl, Nat.le_of_ble_eq_true rfl⟩ (fun r_1 hq_2 => ?_)
  refine lv_if_eq (tgt := 24) hx hb dX6_refuse_11 (by decide) (fun (c_3 : r_1 = 0) => ?_) (fun (c_3 : ¬ (r_1 = 0)) => ?_)
  · have u_4 := hq_2.2.2 c_3
    refine lv_iload_n hx hb dX6_refuse_24 rfl (lv_at hl 2 rfl) ?_
    rw [hQ]
    exact W.iret (v := x1) hx hb hr (fun t ht hW => ⟨⟨x1, C, rfl, ⟨hT, hF, rfl⟩, ⟨by rw [ht]; exact hP, hD⟩⟩, hS.F ht⟩) hS.2.2 dX6_refuse_25
  · have u_5 := hq_2.2.1 c_3
    refine lv_aload_n hx hb dX6_refuse_14 rfl (lv_at hl 1 rfl) ?_
    refine va_get (D := D) (ci := 6) (v := .ref (a 7)) (C := RX6) (T := TX6) (N := 9) hx hb htg ig_6 hown hK hP 0 (oh_wg (by decide) (sX_0 hT)) rfl 7 (by decide) (htg _ q_265) (fun _ h9 => h9) rfl dX6_refuse_15 ?_
    refine lv_iload_n hx hb dX6_refuse_18 rfl (lv_at hl 0 rfl) ?_
    refine lv_dup2_11 hx hb dX6_refuse_19 rfl rfl ?_
    have n_6 : vp_in ((-2) - x1) 5 := (rg_in (rn_leu u_5.2 (rn_lel u_5.1 (rg_c (v := 0) (lo := 0) (hi := 0) (by decide)) (rg_any _)) (rg_c (v := 4) (lo := 4) (hi := 4) (by decide))) (by decide))
    refine th_iald hx hb hK hP 7 (by decide) (sX_7 hT) n_6 dX6_refuse_20 ?_
    refine lv_iconst (v := 1) hx hb dX6_refuse_21 (by decide) ?_
    refine lv_iadd hx hb dX6_refuse_22 ?_
    have n_7 : vp_in ((-2) - x1) 5 := (rg_in (rn_leu u_5.2 (rn_lel u_5.1 (rg_c (v := 0) (lo := 0) (hi := 0) (by decide)) (rg_any _)) (rg_c (v := 4) (lo := 4) (hi := 4) (by decide))) (by decide))
    refine th_iast (T := TyX a E) (Rl := fr [(7, 8)] [] C) hx hb hK hP hD hS 7 (by decide) (sX_7 hT) n_7 (hT.up 7 (tA_upd (tX_7 hT) tA_any)) (fr_st hF (by decide) (by decide)) dX6_refuse_23 (fun C_8 H locs e_9 hT hF hP hD hS => ?_)
    have t_10 := hT
    refine lv_iload_n hx hb dX6_refuse_24 rfl (lv_at hl 2 rfl) ?_
    rw [hQ]
    exact W.iret (v := x1) hx hb hr (fun t ht hW => ⟨⟨x1, C_8, rfl, ⟨hT, hF, rfl⟩, ⟨by rw [ht]; exact hP, hD⟩⟩, hS.F ht⟩) hS.2.2 dX6_refuse_25

set_option maxHeartbeats 4000000 in
set_option maxRecDepth 100000 in
theorem c_X6_isBridge (l : Launch) (D : va_G) (E : Nat → ClassId) (G : Nat → Nat) (a : Nat → Nat) (C : Nat → va_E) (hT : TyX a E C) (x1 : Int32) : Met l yX6_isBridge (oh_w yX6_isBridge cX6_isBridge 2 (some .boolean)) ({ frames := 1, cells := 0, slots := 0, locals := 22 }) (oh_Pp D E G [.ref (a 0), .int x1] (oh_W 35 a C)) (vp_Si (fun r => (r = 0 ∨ r = 1) ∧ (r ≠ 0 → rg x1 0 15))) 0 0 (fun _ => False) := by
  refine Met.ofW (cc := cX6_isBridge) (maxL := 2) (ret := (some .boolean)) (by decide) rfl ?_
  intro p e s m args below meth c s₁ B hml hv
  obtain ⟨rfl, hP, hK, hG⟩ := hv
  have hx := B.exec
  have hb := B.bytes
  have hr := B.returns
  have hts := atoms_spec (ws := (oh_w yX6_isBridge cX6_isBridge 2 (some .boolean))) B.pre
  have htg : ∀ w ∈ oh_t, w.before _ s = true := fun w h => hts w (List.mem_cons_of_mem _ h)
  have hown : s.vm.findClass RX6 = some m.cls := findClass_of_methodNamed B.named
  have hlocks := B.notSynchronized
  have hT0 := hT
  have hS : va_S (fun _ => False) s.heap s.heap [] := va_S.rf
  have hl := lv_entry ([.ref (a 0), .int x1]) (n := 2) (Nat.le_of_ble_eq_true rfl)
  rw [lg_entry_eq]
  generalize (lg_sl ([.ref (a 0), .int x1]) ++ List.replicate (2 - (lg_sl ([.ref (a 0), .int x1])).length) Slot.unset).toArray = ls at hl ⊢
  have hl : lv_has ls 2 [(0, .ref (a 0)), (1, .int x1)] := hl
  refine oh_genQ (fun Q hQ => ?_)
  refine lv_iload_n hx hb dX6_isBridge_0 rfl (lv_at hl 1 rfl) ?_
  refine lv_iconst (v := 0) hx hb dX6_isBridge_1 (by decide) ?_
  refine lv_aload_n hx hb dX6_isBridge_2 rfl (lv_at hl 0 rfl) ?_
  refine va_get (D := D) (ci := 6) (v := .ref (a 1)) (C := RX6) (T := TX6) (N := 9) hx hb htg ig_6 hown hK hP 0 (oh_wg (by decide) (sX_0 hT)) rfl 0 (by decide) (htg _ q_258) (fun _ h9 => h9) rfl dX6_isBridge_3 ?_
  refine va_get (D := D) (ci := 0) (v := .ref (a 10)) (C := RX0) (T := TX0) (N := 8) hx hb htg ig_0 hown hK hP 1 (oh_wg (by decide) (sX_1 hT)) rfl 0 (by decide) (htg _ q_100) (fun _ h9 => h9) rfl dX6_isBridge_6 ?_
  refine lv_iconst (v := 1) hx hb dX6_isBridge_9 (by decide) ?_
  refine th_iald hx hb hK hP 10 (by decide) (sX_10 hT) (rg_in (rg_c (v := 1) (lo := 1) (hi := 1) (by decide)) (by decide)) dX6_isBridge_10 ?_
  refine lv_iconst (v := 1) hx hb dX6_isBridge_11 (by decide) ?_
  refine lv_isub hx hb dX6_isBridge_12 ?_
  refine tq_S (As := [.int x1, .int 0, .int ((ga (C 10) ((1 : Int32)).toNatClampNeg) - 1)]) (rest := []) (ws := []) ⟨hx, hb, hml, hown, htg⟩ (c_X6_within l D E G x1 (0 : Int32) ((ga (C 10) ((1 : Int32)).toNatClampNeg) - 1)) (va_cwS 3 htg (oh_gS q_293 q_294 q_66 q_295) rfl rfl rfl pdX6_within ⟨Nat.le_of_ble_eq_true rfl, Nat.le_of_ble_eq_true rfl⟩) hK va_nil hG hS rfl hl.1 rfl (Nat.le_of_ble_eq_true rfl) dX6_isBridge_13 ⟨Nat.le_of_ble_eq_true rfl, Nat.le_of_ble_eq_true rfl⟩ (fun r_1 hq_2 => ?_)
  rw [hQ]
  exact W.zret (v := r_1) (ty := .boolean) hx hb hr (oh_nb hq_2.1) (fun t ht hW => ⟨r_1, rfl, ⟨hq_2.1, (fun h9 => (rg_w (rn_leu (hq_2.2.1 h9).2 (rn_lel (hq_2.2.1 h9).1 (rg_c (v := 0) (lo := 0) (hi := 0) (by decide)) (rg_any _)) (rg_sub (lo := (-1)) (hi := 15) (tA_rdc (lo := 0) (hi := 16) (tX_10 hT0) (rg_in (rg_c (v := 1) (lo := 1) (hi := 1) (by decide)) (by decide)) (show _ = 1 by decide) (by decide)) (rg_c (v := 1) (lo := 1) (hi := 1) (by decide)) (by decide))) (by decide)))⟩, ht⟩) (fun q h => by cases h) dX6_isBridge_16

set_option maxHeartbeats 4000000 in
set_option maxRecDepth 100000 in
theorem c_X6_isWaggon (l : Launch) (D : va_G) (E : Nat → ClassId) (G : Nat → Nat) (a : Nat → Nat) (C : Nat → va_E) (hT : TyX a E C) (x1 : Int32) : Met l yX6_isWaggon (oh_w yX6_isWaggon cX6_isWaggon 2 (some .boolean)) ({ frames := 1, cells := 0, slots := 0, locals := 22 }) (oh_Pp D E G [.ref (a 0), .int x1] (oh_W 35 a C)) (vp_Si (fun r => (r = 0 ∨ r = 1) ∧ (r ≠ 0 → rg x1 0 4))) 0 0 (fun _ => False) := by
  refine Met.ofW (cc := cX6_isWaggon) (maxL := 2) (ret := (some .boolean)) (by decide) rfl ?_
  intro p e s m args below meth c s₁ B hml hv
  obtain ⟨rfl, hP, hK, hG⟩ := hv
  have hx := B.exec
  have hb := B.bytes
  have hr := B.returns
  have hts := atoms_spec (ws := (oh_w yX6_isWaggon cX6_isWaggon 2 (some .boolean))) B.pre
  have htg : ∀ w ∈ oh_t, w.before _ s = true := fun w h => hts w (List.mem_cons_of_mem _ h)
  have hown : s.vm.findClass RX6 = some m.cls := findClass_of_methodNamed B.named
  have hlocks := B.notSynchronized
  have hT0 := hT
  have hS : va_S (fun _ => False) s.heap s.heap [] := va_S.rf
  have hl := lv_entry ([.ref (a 0), .int x1]) (n := 2) (Nat.le_of_ble_eq_true rfl)
  rw [lg_entry_eq]
  generalize (lg_sl ([.ref (a 0), .int x1]) ++ List.replicate (2 - (lg_sl ([.ref (a 0), .int x1])).length) Slot.unset).toArray = ls at hl ⊢
  have hl : lv_has ls 2 [(0, .ref (a 0)), (1, .int x1)] := hl
  refine oh_genQ (fun Q hQ => ?_)
  refine lv_iload_n hx hb dX6_isWaggon_0 rfl (lv_at hl 1 rfl) ?_
  refine lv_iconst (v := 0) hx hb dX6_isWaggon_1 (by decide) ?_
  refine lv_aload_n hx hb dX6_isWaggon_2 rfl (lv_at hl 0 rfl) ?_
  refine va_get (D := D) (ci := 6) (v := .ref (a 1)) (C := RX6) (T := TX6) (N := 9) hx hb htg ig_6 hown hK hP 0 (oh_wg (by decide) (sX_0 hT)) rfl 0 (by decide) (htg _ q_258) (fun _ h9 => h9) rfl dX6_isWaggon_3 ?_
  refine va_get (D := D) (ci := 0) (v := .ref (a 10)) (C := RX0) (T := TX0) (N := 8) hx hb htg ig_0 hown hK hP 1 (oh_wg (by decide) (sX_1 hT)) rfl 0 (by decide) (htg _ q_100) (fun _ h9 => h9) rfl dX6_isWaggon_6 ?_
  refine lv_iconst (v := 2) hx hb dX6_isWaggon_9 (by decide) ?_
  refine th_iald hx hb hK hP 10 (by decide) (sX_10 hT) (rg_in (rg_c (v := 2) (lo := 2) (hi := 2) (by decide)) (by decide)) dX6_isWaggon_10 ?_
  refine lv_iconst (v := 1) hx hb dX6_isWaggon_11 (by decide) ?_
  refine lv_isub hx hb dX6_isWaggon_12 ?_
  refine tq_S (As := [.int x1, .int 0, .int ((ga (C 10) ((2 : Int32)).toNatClampNeg) - 1)]) (rest := []) (ws := []) ⟨hx, hb, hml, hown, htg⟩ (c_X6_within l D E G x1 (0 : Int32) ((ga (C 10) ((2 : Int32)).toNatClampNeg) - 1)) (va_cwS 3 htg (oh_gS q_293 q_294 q_66 q_295) rfl rfl rfl pdX6_within ⟨Nat.le_of_ble_eq_true rfl, Nat.le_of_ble_eq_true rfl⟩) hK va_nil hG hS rfl hl.1 rfl (Nat.le_of_ble_eq_true rfl) dX6_isWaggon_13 ⟨Nat.le_of_ble_eq_true rfl, Nat.le_of_ble_eq_true rfl⟩ (fun r_1 hq_2 => ?_)
  rw [hQ]
  exact W.zret (v := r_1) (ty := .boolean) hx hb hr (oh_nb hq_2.1) (fun t ht hW => ⟨r_1, rfl, ⟨hq_2.1, (fun h9 => (rg_w (rn_leu (hq_2.2.1 h9).2 (rn_lel (hq_2.2.1 h9).1 (rg_c (v := 0) (lo := 0) (hi := 0) (by decide)) (rg_any _)) (rg_sub (lo := (-1)) (hi := 4) (tA_rdc (lo := 0) (hi := 5) (tX_10 hT0) (rg_in (rg_c (v := 2) (lo := 2) (hi := 2) (by decide)) (by decide)) (show _ = 2 by decide) (by decide)) (rg_c (v := 1) (lo := 1) (hi := 1) (by decide)) (by decide))) (by decide)))⟩, ht⟩) (fun q h => by cases h) dX6_isWaggon_16

set_option maxHeartbeats 4000000 in
set_option maxRecDepth 100000 in
theorem c_X6_isPack (l : Launch) (D : va_G) (E : Nat → ClassId) (G : Nat → Nat) (a : Nat → Nat) (C : Nat → va_E) (hT : TyX a E C) (x1 : Int32) (x2 : Int32) : Met l yX6_isPack (oh_w yX6_isPack cX6_isPack 3 (some .boolean)) ({ frames := 2, cells := 0, slots := 0, locals := 43 }) (oh_Pp D E G [.ref (a 0), .int x1, .int x2] (oh_W 35 a C)) (vp_Si (fun r => (r = 0 ∨ r = 1) ∧ (r ≠ 0 → rg x1 0 4))) 0 0 (fun _ => False) := by
  refine Met.ofW (cc := cX6_isPack) (maxL := 3) (ret := (some .boolean)) (by decide) rfl ?_
  intro p e s m args below meth c s₁ B hml hv
  obtain ⟨rfl, hP, hK, hG⟩ := hv
  have hx := B.exec
  have hb := B.bytes
  have hr := B.returns
  have hts := atoms_spec (ws := (oh_w yX6_isPack cX6_isPack 3 (some .boolean))) B.pre
  have htg : ∀ w ∈ oh_t, w.before _ s = true := fun w h => hts w (List.mem_cons_of_mem _ h)
  have hown : s.vm.findClass RX6 = some m.cls := findClass_of_methodNamed B.named
  have hlocks := B.notSynchronized
  have hT0 := hT
  have hS : va_S (fun _ => False) s.heap s.heap [] := va_S.rf
  have hl := lv_entry ([.ref (a 0), .int x1, .int x2]) (n := 3) (Nat.le_of_ble_eq_true rfl)
  rw [lg_entry_eq]
  generalize (lg_sl ([.ref (a 0), .int x1, .int x2]) ++ List.replicate (3 - (lg_sl ([.ref (a 0), .int x1, .int x2])).length) Slot.unset).toArray = ls at hl ⊢
  have hl : lv_has ls 3 [(0, .ref (a 0)), (1, .int x1), (2, .int x2)] := hl
  refine oh_genQ (fun Q hQ => ?_)
  refine lv_aload_n hx hb dX6_isPack_0 rfl (lv_at hl 0 rfl) ?_
  refine lv_iload_n hx hb dX6_isPack_1 rfl (lv_at hl 1 rfl) ?_
  refine tq_V (As := [.int x1]) (rest := []) (ws := (oh_W 35 a C)) ⟨hx, hb, hml, hown, htg⟩ (c_X6_isWaggon l D E G a C hT x1) (cwV 1 htg (oh_gV q_679 q_681 q_15 q_66 q_682) rfl rfl rfl pdVX6_isWaggon ⟨Nat.le_of_ble_eq_true rfl, Nat.le_of_ble_eq_true rfl⟩) hK hP hG hS (va_recv hK hP (ci := 6) (q0 := 0) rfl (oh_wg (by decide) (sX_0 hT))) rfl hl.1 rfl (Nat.le_of_ble_eq_true rfl) dX6_isPack_2 ⟨Nat.le_of_ble_eq_true rfl, Nat.le_of_ble_eq_true rfl⟩ (fun r_1 hq_2 => ?_)
  refine lv_if_eq (tgt := 29) hx hb dX6_isPack_5 (by decide) (fun (c_3 : r_1 = 0) => ?_) (fun (c_3 : ¬ (r_1 = 0)) => ?_)
  · refine lv_iconst (v := 0) hx hb dX6_isPack_29 (by decide) ?_
    rw [hQ]
    exact W.zret (v := 0) (ty := .boolean) hx hb hr (by decide) (fun t ht hW => ⟨0, rfl, ⟨(Or.inl rfl), (fun h9 => absurd rfl h9)⟩, ht⟩) (fun q h => by cases h) dX6_isPack_30
  · have u_4 := hq_2.2 c_3
    refine lv_iload_n hx hb dX6_isPack_8 rfl (lv_at hl 2 rfl) ?_
    refine lv_iconst (v := 0) hx hb dX6_isPack_9 (by decide) ?_
    refine lv_aload_n hx hb dX6_isPack_10 rfl (lv_at hl 0 rfl) ?_
    refine va_get (D := D) (ci := 6) (v := .ref (a 1)) (C := RX6) (T := TX6) (N := 9) hx hb htg ig_6 hown hK hP 0 (oh_wg (by decide) (sX_0 hT)) rfl 0 (by decide) (htg _ q_258) (fun _ h9 => h9) rfl dX6_isPack_11 ?_
    refine tq_V (As := []) (rest := [.int 0, .int x2]) (ws := (oh_W 35 a C)) ⟨hx, hb, hml, hown, htg⟩ (c_X0_setsOfParts l D E G a C hT) (cwV 0 htg (oh_gV q_699 q_700 q_701 q_67 q_702) rfl rfl rfl pdVX0_setsOfParts ⟨Nat.le_of_ble_eq_true rfl, Nat.le_of_ble_eq_true rfl⟩) hK hP hG hS (va_recv hK hP (ci := 0) (q0 := 1) rfl (oh_wg (by decide) (sX_1 hT))) rfl hl.1 rfl (Nat.le_of_ble_eq_true rfl) dX6_isPack_14 ⟨Nat.le_of_ble_eq_true rfl, Nat.le_of_ble_eq_true rfl⟩ (fun r_5 hq_6 => ?_)
    refine lv_iconst (v := 1) hx hb dX6_isPack_17 (by decide) ?_
    refine lv_isub hx hb dX6_isPack_18 ?_
    refine tq_S (As := [.int x2, .int 0, .int (r_5 - 1)]) (rest := []) (ws := []) ⟨hx, hb, hml, hown, htg⟩ (c_X6_within l D E G x2 (0 : Int32) (r_5 - 1)) (va_cwS 3 htg (oh_gS q_293 q_294 q_66 q_295) rfl rfl rfl pdX6_within ⟨Nat.le_of_ble_eq_true rfl, Nat.le_of_ble_eq_true rfl⟩) hK va_nil hG hS rfl hl.1 rfl (Nat.le_of_ble_eq_true rfl) dX6_isPack_19 ⟨Nat.le_of_ble_eq_true rfl, Nat.le_of_ble_eq_true rfl⟩ (fun r_7 hq_8 => ?_)
    refine lv_if_eq (tgt := 29) hx hb dX6_isPack_22 (by decide) (fun (c_9 : r_7 = 0) => ?_) (fun (c_9 : ¬ (r_7 = 0)) => ?_)
    · have u_10 := hq_8.2.2 c_9
      refine lv_iconst (v := 0) hx hb dX6_isPack_29 (by decide) ?_
      rw [hQ]
      exact W.zret (v := 0) (ty := .boolean) hx hb hr (by decide) (fun t ht hW => ⟨0, rfl, ⟨(Or.inl rfl), (fun h9 => absurd rfl h9)⟩, ht⟩) (fun q h => by cases h) dX6_isPack_30
    · have u_11 := hq_8.2.1 c_9
      refine lv_iconst (v := 1) hx hb dX6_isPack_25 (by decide) ?_
      refine lv_goto (tgt := 30) hx hb dX6_isPack_26 (by decide) ?_
      rw [hQ]
      exact W.zret (v := 1) (ty := .boolean) hx hb hr (by decide) (fun t ht hW => ⟨1, rfl, ⟨(Or.inr rfl), (fun _ => (rg_w u_4 (by decide)))⟩, ht⟩) (fun q h => by cases h) dX6_isPack_30

set_option maxHeartbeats 4000000 in
set_option maxRecDepth 100000 in
theorem c_X6_isJourney (l : Launch) (D : va_G) (E : Nat → ClassId) (G : Nat → Nat) (a : Nat → Nat) (C : Nat → va_E) (hT : TyX a E C) (x1 : Int32) (x2 : Int32) (x3 : Int32) (x4 : Int32) : Met l yX6_isJourney (oh_w yX6_isJourney cX6_isJourney 5 (some .boolean)) ({ frames := 3, cells := 0, slots := 0, locals := 65 }) (oh_Pp D E G [.ref (a 0), .int x1, .int x2, .int x3, .int x4] (oh_W 35 a C)) (vp_Si (fun r => (r = 0 ∨ r = 1) ∧ (r ≠ 0 → rg x1 0 4 ∧ rg x3 0 15 ∧ rg x4 0 15))) 0 0 (fun _ => False) := by
  refine Met.ofW (cc := cX6_isJourney) (maxL := 5) (ret := (some .boolean)) (by decide) rfl ?_
  intro p e s m args below meth c s₁ B hml hv
  obtain ⟨rfl, hP, hK, hG⟩ := hv
  have hx := B.exec
  have hb := B.bytes
  have hr := B.returns
  have hts := atoms_spec (ws := (oh_w yX6_isJourney cX6_isJourney 5 (some .boolean))) B.pre
  have htg : ∀ w ∈ oh_t, w.before _ s = true := fun w h => hts w (List.mem_cons_of_mem _ h)
  have hown : s.vm.findClass RX6 = some m.cls := findClass_of_methodNamed B.named
  have hlocks := B.notSynchronized
  have hT0 := hT
  have hS : va_S (fun _ => False) s.heap s.heap [] := va_S.rf
  have hl := lv_entry ([.ref (a 0), .int x1, .int x2, .int x3, .int x4]) (n := 5) (Nat.le_of_ble_eq_true rfl)
  rw [lg_entry_eq]
  generalize (lg_sl ([.ref (a 0), .int x1, .int x2, .int x3, .int x4]) ++ List.replicate (5 - (lg_sl ([.ref (a 0), .int x1, .int x2, .int x3, .int x4])).length) Slot.unset).toArray = ls at hl ⊢
  have hl : lv_has ls 5 [(0, .ref (a 0)), (1, .int x1), (2, .int x2), (3, .int x3), (4, .int x4)] := hl
  refine oh_genQ (fun Q hQ => ?_)
  refine lv_aload_n hx hb dX6_isJourney_0 rfl (lv_at hl 0 rfl) ?_
  refine lv_iload_n hx hb dX6_isJourney_1 rfl (lv_at hl 1 rfl) ?_
  refine lv_iload_n hx hb dX6_isJourney_2 rfl (lv_at hl 2 rfl) ?_
  refine tq_V (As := [.int x1, .int x2]) (rest := []) (ws := (oh_W 35 a C)) ⟨hx, hb, hml, hown, htg⟩ (c_X6_isPack l D E G a C hT x1 x2) (cwV 2 htg (oh_gV q_695 q_697 q_16 q_66 q_698) rfl rfl rfl pdVX6_isPack ⟨Nat.le_of_ble_eq_true rfl, Nat.le_of_ble_eq_true rfl⟩) hK hP hG hS (va_recv hK hP (ci := 6) (q0 := 0) rfl (oh_wg (by decide) (sX_0 hT))) rfl hl.1 rfl (Nat.le_of_ble_eq_true rfl) dX6_isJourney_3 ⟨Nat.le_of_ble_eq_true rfl, Nat.le_of_ble_eq_true rfl⟩ (fun r_1 hq_2 => ?_)
  refine lv_if_eq (tgt := 28) hx hb dX6_isJourney_6 (by decide) (fun (c_3 : r_1 = 0) => ?_) (fun (c_3 : ¬ (r_1 = 0)) => ?_)
  · refine lv_iconst (v := 0) hx hb dX6_isJourney_28 (by decide) ?_
    rw [hQ]
    exact W.zret (v := 0) (ty := .boolean) hx hb hr (by decide) (fun t ht hW => ⟨0, rfl, ⟨(Or.inl rfl), (fun h9 => absurd rfl h9)⟩, ht⟩) (fun q h => by cases h) dX6_isJourney_29
  · have u_4 := hq_2.2 c_3
    refine lv_iload_n hx hb dX6_isJourney_9 rfl (lv_at hl 3 rfl) ?_
    refine tq_S (As := [.int x3]) (rest := []) (ws := []) ⟨hx, hb, hml, hown, htg⟩ (c_X6_isPlace l D E G x3) (va_cwS 1 htg (oh_gS q_413 q_414 q_66 q_415) rfl rfl rfl pdX6_isPlace ⟨Nat.le_of_ble_eq_true rfl, Nat.le_of_ble_eq_true rfl⟩) hK va_nil hG hS rfl hl.1 rfl (Nat.le_of_ble_eq_true rfl) dX6_isJourney_10 ⟨Nat.le_of_ble_eq_true rfl, Nat.le_of_ble_eq_true rfl⟩ (fun r_5 hq_6 => ?_)
    refine lv_if_eq (tgt := 28) hx hb dX6_isJourney_13 (by decide) (fun (c_7 : r_5 = 0) => ?_) (fun (c_7 : ¬ (r_5 = 0)) => ?_)
    · refine lv_iconst (v := 0) hx hb dX6_isJourney_28 (by decide) ?_
      rw [hQ]
      exact W.zret (v := 0) (ty := .boolean) hx hb hr (by decide) (fun t ht hW => ⟨0, rfl, ⟨(Or.inl rfl), (fun h9 => absurd rfl h9)⟩, ht⟩) (fun q h => by cases h) dX6_isJourney_29
    · have u_8 := hq_6.2 c_7
      refine lv_iload hx hb dX6_isJourney_16 (lv_at hl 4 rfl) ?_
      refine tq_S (As := [.int x4]) (rest := []) (ws := []) ⟨hx, hb, hml, hown, htg⟩ (c_X6_isPlace l D E G x4) (va_cwS 1 htg (oh_gS q_413 q_414 q_66 q_415) rfl rfl rfl pdX6_isPlace ⟨Nat.le_of_ble_eq_true rfl, Nat.le_of_ble_eq_true rfl⟩) hK va_nil hG hS rfl hl.1 rfl (Nat.le_of_ble_eq_true rfl) dX6_isJourney_18 ⟨Nat.le_of_ble_eq_true rfl, Nat.le_of_ble_eq_true rfl⟩ (fun r_9 hq_10 => ?_)
      refine lv_if_eq (tgt := 28) hx hb dX6_isJourney_21 (by decide) (fun (c_11 : r_9 = 0) => ?_) (fun (c_11 : ¬ (r_9 = 0)) => ?_)
      · refine lv_iconst (v := 0) hx hb dX6_isJourney_28 (by decide) ?_
        rw [hQ]
        exact W.zret (v := 0) (ty := .boolean) hx hb hr (by decide) (fun t ht hW => ⟨0, rfl, ⟨(Or.inl rfl), (fun h9 => absurd rfl h9)⟩, ht⟩) (fun q h => by cases h) dX6_isJourney_29
      · have u_12 := hq_10.2 c_11
        refine lv_iconst (v := 1) hx hb dX6_isJourney_24 (by decide) ?_
        refine lv_goto (tgt := 29) hx hb dX6_isJourney_25 (by decide) ?_
        rw [hQ]
        exact W.zret (v := 1) (ty := .boolean) hx hb hr (by decide) (fun t ht hW => ⟨1, rfl, ⟨(Or.inr rfl), (fun _ => ⟨(rg_w u_4 (by decide)), (rg_w u_8 (by decide)), (rg_w u_12 (by decide))⟩)⟩, ht⟩) (fun q h => by cases h) dX6_isJourney_29

set_option maxHeartbeats 4000000 in
set_option maxRecDepth 100000 in
theorem c_X6_whyNoRow (l : Launch) (D : va_G) (E : Nat → ClassId) (G : Nat → Nat) (a : Nat → Nat) (C : Nat → va_E) (hT : TyX a E C) (x1 : Int32) : Met l yX6_whyNoRow (oh_w yX6_whyNoRow cX6_whyNoRow 2 (some .int)) ({ frames := 2, cells := 0, slots := 0, locals := 42 }) (oh_Pp D E G [.ref (a 0), .int x1] (oh_W 35 a C)) (vp_Si (fun r => (r = 0 → rg x1 0 7))) 0 0 (fun _ => False) := by
  refine Met.ofW (cc := cX6_whyNoRow) (maxL := 2) (ret := (some .int)) (by decide) rfl ?_
  intro p e s m args below meth c s₁ B hml hv
  obtain ⟨rfl, hP, hK, hG⟩ := hv
  have hx := B.exec
  have hb := B.bytes
  have hr := B.returns
  have hts := atoms_spec (ws := (oh_w yX6_whyNoRow cX6_whyNoRow 2 (some .int))) B.pre
  have htg : ∀ w ∈ oh_t, w.before _ s = true := fun w h => hts w (List.mem_cons_of_mem _ h)
  have hown : s.vm.findClass RX6 = some m.cls := findClass_of_methodNamed B.named
  have hlocks := B.notSynchronized
  have hT0 := hT
  have hS : va_S (fun _ => False) s.heap s.heap [] := va_S.rf
  have hl := lv_entry ([.ref (a 0), .int x1]) (n := 2) (Nat.le_of_ble_eq_true rfl)
  rw [lg_entry_eq]
  generalize (lg_sl ([.ref (a 0), .int x1]) ++ List.replicate (2 - (lg_sl ([.ref (a 0), .int x1])).length) Slot.unset).toArray = ls at hl ⊢
  have hl : lv_has ls 2 [(0, .ref (a 0)), (1, .int x1)] := hl
  refine oh_genQ (fun Q hQ => ?_)
  refine lv_iload_n hx hb dX6_whyNoRow_0 rfl (lv_at hl 1 rfl) ?_
  refine tq_S (As := [.int x1]) (rest := []) (ws := []) ⟨hx, hb, hml, hown, htg⟩ (c_X6_isShelf l D E G x1) (va_cwS 1 htg (oh_gS q_290 q_291 q_66 q_292) rfl rfl rfl pdX6_isShelf ⟨Nat.le_of_ble_eq_true rfl, Nat.le_of_ble_eq_true rfl⟩) hK va_nil hG hS rfl hl.1 rfl (Nat.le_of_ble_eq_true rfl) dX6_whyNoRow_1 ⟨Nat.le_of_ble_eq_true rfl, Nat.le_of_ble_eq_true rfl⟩ (fun r_1 hq_2 => ?_)
  refine lv_if_ne (tgt := 10) hx hb dX6_whyNoRow_4 (by decide) (fun (c_3 : ¬ (r_1 = 0)) => ?_) (fun (c_3 : r_1 = 0) => ?_)
  · have u_4 := hq_2.2.1 c_3
    refine lv_aload_n hx hb dX6_whyNoRow_10 rfl (lv_at hl 0 rfl) ?_
    refine va_get (D := D) (ci := 6) (v := .ref (a 4)) (C := RX6) (T := TX6) (N := 9) hx hb htg ig_6 hown hK hP 0 (oh_wg (by decide) (sX_0 hT)) rfl 4 (by decide) (htg _ q_262) (fun _ h9 => h9) rfl dX6_whyNoRow_11 ?_
    refine lv_iload_n hx hb dX6_whyNoRow_14 rfl (lv_at hl 1 rfl) ?_
    refine tq_V (As := [.int x1]) (rest := []) (ws := (oh_W 35 a C)) ⟨hx, hb, hml, hown, htg⟩ (c_X3_holdsBridge l D E G a C hT x1 (rg_w u_4 (by decide))) (cwV 1 htg (oh_gV q_312 q_313 q_314 q_70 q_315) rfl rfl rfl pdVX3_holdsBridge ⟨Nat.le_of_ble_eq_true rfl, Nat.le_of_ble_eq_true rfl⟩) hK hP hG hS (va_recv hK hP (ci := 3) (q0 := 4) rfl (oh_wg (by decide) (sX_4 hT))) rfl hl.1 rfl (Nat.le_of_ble_eq_true rfl) dX6_whyNoRow_15 ⟨Nat.le_of_ble_eq_true rfl, Nat.le_of_ble_eq_true rfl⟩ (fun r_5 hq_6 => ?_)
    refine lv_if_eq (tgt := 24) hx hb dX6_whyNoRow_18 (by decide) (fun (c_7 : r_5 = 0) => ?_) (fun (c_7 : ¬ (r_5 = 0)) => ?_)
    · refine lv_aload_n hx hb dX6_whyNoRow_24 rfl (lv_at hl 0 rfl) ?_
      refine va_get (D := D) (ci := 6) (v := .ref (a 4)) (C := RX6) (T := TX6) (N := 9) hx hb htg ig_6 hown hK hP 0 (oh_wg (by decide) (sX_0 hT)) rfl 4 (by decide) (htg _ q_262) (fun _ h9 => h9) rfl dX6_whyNoRow_25 ?_
      refine lv_iload_n hx hb dX6_whyNoRow_28 rfl (lv_at hl 1 rfl) ?_
      refine tq_V (As := [.int x1]) (rest := []) (ws := (oh_W 35 a C)) ⟨hx, hb, hml, hown, htg⟩ (c_X3_holdsNothing l D E G a C hT x1 (rg_w u_4 (by decide))) (cwV 1 htg (oh_gV q_316 q_317 q_318 q_70 q_319) rfl rfl rfl pdVX3_holdsNothing ⟨Nat.le_of_ble_eq_true rfl, Nat.le_of_ble_eq_true rfl⟩) hK hP hG hS (va_recv hK hP (ci := 3) (q0 := 4) rfl (oh_wg (by decide) (sX_4 hT))) rfl hl.1 rfl (Nat.le_of_ble_eq_true rfl) dX6_whyNoRow_29 ⟨Nat.le_of_ble_eq_true rfl, Nat.le_of_ble_eq_true rfl⟩ (fun r_8 hq_9 => ?_)
      refine lv_if_eq (tgt := 40) hx hb dX6_whyNoRow_32 (by decide) (fun (c_10 : r_8 = 0) => ?_) (fun (c_10 : ¬ (r_8 = 0)) => ?_)
      · refine lv_iconst (v := 0) hx hb dX6_whyNoRow_40 (by decide) ?_
        rw [hQ]
        exact W.iret (v := 0) hx hb hr (fun t ht hW => ⟨0, rfl, (fun _ => (rg_w u_4 (by decide))), ht⟩) (fun q h => by cases h) dX6_whyNoRow_41
      · refine lv_bipush (v := (-4)) hx hb dX6_whyNoRow_35 (by decide) ?_
        refine lv_goto (tgt := 41) hx hb dX6_whyNoRow_37 (by decide) ?_
        rw [hQ]
        exact W.iret (v := (-4)) hx hb hr (fun t ht hW => ⟨(-4), rfl, (fun h9 => absurd h9 (by decide)), ht⟩) (fun q h => by cases h) dX6_whyNoRow_41
    · refine lv_bipush (v := (-3)) hx hb dX6_whyNoRow_21 (by decide) ?_
      rw [hQ]
      exact W.iret (v := (-3)) hx hb hr (fun t ht hW => ⟨(-3), rfl, (fun h9 => absurd h9 (by decide)), ht⟩) (fun q h => by cases h) dX6_whyNoRow_23
  · have u_11 := hq_2.2.2 c_3
    refine lv_bipush (v := (-2)) hx hb dX6_whyNoRow_7 (by decide) ?_
    rw [hQ]
    exact W.iret (v := (-2)) hx hb hr (fun t ht hW => ⟨(-2), rfl, (fun h9 => absurd h9 (by decide)), ht⟩) (fun q h => by cases h) dX6_whyNoRow_9

set_option maxHeartbeats 4000000 in
set_option maxRecDepth 100000 in
theorem c_X6_whyNotTold (l : Launch) (D : va_G) (E : Nat → ClassId) (G : Nat → Nat) (a : Nat → Nat) (C : Nat → va_E) (hT : TyX a E C) (x1 : Int32) (x2 : Int32) (x3 : Int32) (x4 : Int32) (x5 : Int32) : Met l yX6_whyNotTold (oh_w yX6_whyNotTold cX6_whyNotTold 7 (some .int)) ({ frames := 3, cells := 0, slots := 0, locals := 65 }) (oh_Pp D E G [.ref (a 0), .int x1, .int x2, .int x3, .int x4, .int x5] (oh_W 35 a C)) (vp_Si (fun r => (r = 0 → rg x1 0 4 ∧ rg x3 0 15 ∧ rg x4 0 7 ∧ rg x5 0 20))) 0 0 (fun _ => False) := by
  refine Met.ofW (cc := cX6_whyNotTold) (maxL := 7) (ret := (some .int)) (by decide) rfl ?_
  intro p e s m args below meth c s₁ B hml hv
  obtain ⟨rfl, hP, hK, hG⟩ := hv
  have hx := B.exec
  have hb := B.bytes
  have hr := B.returns
  have hts := atoms_spec (ws := (oh_w yX6_whyNotTold cX6_whyNotTold 7 (some .int))) B.pre
  have htg : ∀ w ∈ oh_t, w.before _ s = true := fun w h => hts w (List.mem_cons_of_mem _ h)
  have hown : s.vm.findClass RX6 = some m.cls := findClass_of_methodNamed B.named
  have hlocks := B.notSynchronized
  have hT0 := hT
  have hS : va_S (fun _ => False) s.heap s.heap [] := va_S.rf
  have hl := lv_entry ([.ref (a 0), .int x1, .int x2, .int x3, .int x4, .int x5]) (n := 7) (Nat.le_of_ble_eq_true rfl)
  rw [lg_entry_eq]
  generalize (lg_sl ([.ref (a 0), .int x1, .int x2, .int x3, .int x4, .int x5]) ++ List.replicate (7 - (lg_sl ([.ref (a 0), .int x1, .int x2, .int x3, .int x4, .int x5])).length) Slot.unset).toArray = ls at hl ⊢
  have hl : lv_has ls 7 [(0, .ref (a 0)), (1, .int x1), (2, .int x2), (3, .int x3), (4, .int x4), (5, .int x5)] := hl
  refine oh_genQ (fun Q hQ => ?_)
  refine lv_aload_n hx hb dX6_whyNotTold_0 rfl (lv_at hl 0 rfl) ?_
  refine lv_iload_n hx hb dX6_whyNotTold_1 rfl (lv_at hl 1 rfl) ?_
  refine lv_iload_n hx hb dX6_whyNotTold_2 rfl (lv_at hl 2 rfl) ?_
  refine tq_V (As := [.int x1, .int x2]) (rest := []) (ws := (oh_W 35 a C)) ⟨hx, hb, hml, hown, htg⟩ (c_X6_isPack l D E G a C hT x1 x2) (cwV 2 htg (oh_gV q_695 q_697 q_16 q_66 q_698) rfl rfl rfl pdVX6_isPack ⟨Nat.le_of_ble_eq_true rfl, Nat.le_of_ble_eq_true rfl⟩) hK hP hG hS (va_recv hK hP (ci := 6) (q0 := 0) rfl (oh_wg (by decide) (sX_0 hT))) rfl hl.1 rfl (Nat.le_of_ble_eq_true rfl) dX6_whyNotTold_3 ⟨Nat.le_of_ble_eq_true rfl, Nat.le_of_ble_eq_true rfl⟩ (fun r_1 hq_2 => ?_)
  refine lv_if_eq (tgt := 35) hx hb dX6_whyNotTold_6 (by decide) (fun (c_3 : r_1 = 0) => ?_) (fun (c_3 : ¬ (r_1 = 0)) => ?_)
  · refine lv_bipush (v := (-2)) hx hb dX6_whyNotTold_35 (by decide) ?_
    rw [hQ]
    exact W.iret (v := (-2)) hx hb hr (fun t ht hW => ⟨(-2), rfl, (fun h9 => absurd h9 (by decide)), ht⟩) (fun q h => by cases h) dX6_whyNotTold_37
  · have u_4 := hq_2.2 c_3
    refine lv_iload_n hx hb dX6_whyNotTold_9 rfl (lv_at hl 3 rfl) ?_
    refine tq_S (As := [.int x3]) (rest := []) (ws := []) ⟨hx, hb, hml, hown, htg⟩ (c_X6_isPlace l D E G x3) (va_cwS 1 htg (oh_gS q_413 q_414 q_66 q_415) rfl rfl rfl pdX6_isPlace ⟨Nat.le_of_ble_eq_true rfl, Nat.le_of_ble_eq_true rfl⟩) hK va_nil hG hS rfl hl.1 rfl (Nat.le_of_ble_eq_true rfl) dX6_whyNotTold_10 ⟨Nat.le_of_ble_eq_true rfl, Nat.le_of_ble_eq_true rfl⟩ (fun r_5 hq_6 => ?_)
    refine lv_if_eq (tgt := 35) hx hb dX6_whyNotTold_13 (by decide) (fun (c_7 : r_5 = 0) => ?_) (fun (c_7 : ¬ (r_5 = 0)) => ?_)
    · refine lv_bipush (v := (-2)) hx hb dX6_whyNotTold_35 (by decide) ?_
      rw [hQ]
      exact W.iret (v := (-2)) hx hb hr (fun t ht hW => ⟨(-2), rfl, (fun h9 => absurd h9 (by decide)), ht⟩) (fun q h => by cases h) dX6_whyNotTold_37
    · have u_8 := hq_6.2 c_7
      refine lv_iload hx hb dX6_whyNotTold_16 (lv_at hl 4 rfl) ?_
      refine tq_S (As := [.int x4]) (rest := []) (ws := []) ⟨hx, hb, hml, hown, htg⟩ (c_X6_isShelf l D E G x4) (va_cwS 1 htg (oh_gS q_290 q_291 q_66 q_292) rfl rfl rfl pdX6_isShelf ⟨Nat.le_of_ble_eq_true rfl, Nat.le_of_ble_eq_true rfl⟩) hK va_nil hG hS rfl hl.1 rfl (Nat.le_of_ble_eq_true rfl) dX6_whyNotTold_18 ⟨Nat.le_of_ble_eq_true rfl, Nat.le_of_ble_eq_true rfl⟩ (fun r_9 hq_10 => ?_)
      refine lv_if_eq (tgt := 35) hx hb dX6_whyNotTold_21 (by decide) (fun (c_11 : r_9 = 0) => ?_) (fun (c_11 : ¬ (r_9 = 0)) => ?_)
      · have u_12 := hq_10.2.2 c_11
        refine lv_bipush (v := (-2)) hx hb dX6_whyNotTold_35 (by decide) ?_
        rw [hQ]
        exact W.iret (v := (-2)) hx hb hr (fun t ht hW => ⟨(-2), rfl, (fun h9 => absurd h9 (by decide)), ht⟩) (fun q h => by cases h) dX6_whyNotTold_37
      · have u_13 := hq_10.2.1 c_11
        refine lv_iload hx hb dX6_whyNotTold_24 (lv_at hl 5 rfl) ?_
        refine lv_iconst (v := 0) hx hb dX6_whyNotTold_26 (by decide) ?_
        refine lv_bipush (v := 20) hx hb dX6_whyNotTold_27 (by decide) ?_
        refine tq_S (As := [.int x5, .int 0, .int 20]) (rest := []) (ws := []) ⟨hx, hb, hml, hown, htg⟩ (c_X6_within l D E G x5 (0 : Int32) (20 : Int32)) (va_cwS 3 htg (oh_gS q_293 q_294 q_66 q_295) rfl rfl rfl pdX6_within ⟨Nat.le_of_ble_eq_true rfl, Nat.le_of_ble_eq_true rfl⟩) hK va_nil hG hS rfl hl.1 rfl (Nat.le_of_ble_eq_true rfl) dX6_whyNotTold_29 ⟨Nat.le_of_ble_eq_true rfl, Nat.le_of_ble_eq_true rfl⟩ (fun r_14 hq_15 => ?_)
        refine lv_if_ne (tgt := 38) hx hb dX6_whyNotTold_32 (by decide) (fun (c_16 : ¬ (r_14 = 0)) => ?_) (fun (c_16 : r_14 = 0) => ?_)
        · have u_17 := hq_15.2.1 c_16
          refine lv_aload_n hx hb dX6_whyNotTold_38 rfl (lv_at hl 0 rfl) ?_
          refine lv_iload hx hb dX6_whyNotTold_39 (lv_at hl 4 rfl) ?_
          refine tq_V (As := [.int x4]) (rest := []) (ws := (oh_W 35 a C)) ⟨hx, hb, hml, hown, htg⟩ (c_X6_whyNoRow l D E G a C hT x4) (cwV 1 htg (oh_gV q_308 q_310 q_1 q_66 q_311) rfl rfl rfl pdVX6_whyNoRow ⟨Nat.le_of_ble_eq_true rfl, Nat.le_of_ble_eq_true rfl⟩) hK hP hG hS (va_recv hK hP (ci := 6) (q0 := 0) rfl (oh_wg (by decide) (sX_0 hT))) rfl hl.1 rfl (Nat.le_of_ble_eq_true rfl) dX6_whyNotTold_41 ⟨Nat.le_of_ble_eq_true rfl, Nat.le_of_ble_eq_true rfl⟩ (fun r_18 hq_19 => ?_)
          refine lv_istore (lv' := [(6, .int r_18), (0, .ref (a 0)), (1, .int x1), (2, .int x2), (3, .int x3), (4, .int x4), (5, .int x5)]) hx hb dX6_whyNotTold_44 hl (by decide) rfl (fun ls hl => ?_)
          refine lv_iload hx hb dX6_whyNotTold_46 (lv_at hl 0 rfl) ?_
          refine lv_if_eq (tgt := 54) hx hb dX6_whyNotTold_48 (by decide) (fun (c_20 : r_18 = 0) => ?_) (fun (c_20 : ¬ (r_18 = 0)) => ?_)
          · have u_21 := hq_19 c_20
            refine lv_iload hx hb dX6_whyNotTold_54 (lv_at hl 6 rfl) ?_
            refine lv_aload_n hx hb dX6_whyNotTold_56 rfl (lv_at hl 1 rfl) ?_
            refine va_get (D := D) (ci := 6) (v := .ref (a 4)) (C := RX6) (T := TX6) (N := 9) hx hb htg ig_6 hown hK hP 0 (oh_wg (by decide) (sX_0 hT)) rfl 4 (by decide) (htg _ q_262) (fun _ h9 => h9) rfl dX6_whyNotTold_57 ?_
            refine va_get (D := D) (ci := 3) (v := .ref (a 30)) (C := RX3) (T := TX3) (N := 3) hx hb htg ig_3 hown hK hP 4 (oh_wg (by decide) (sX_4 hT)) rfl 1 (by decide) (htg _ q_201) (fun _ h9 => h9) rfl dX6_whyNotTold_60 ?_
            refine lv_iload hx hb dX6_whyNotTold_63 (lv_at hl 5 rfl) ?_
            have n_22 : vp_in x4 8 := (rg_in u_13 (by decide))
            refine th_iald hx hb hK hP 30 (by decide) (sX_30 hT) n_22 dX6_whyNotTold_65 ?_
            refine lv_icmp_le (tgt := 74) hx hb dX6_whyNotTold_66 (by decide) (fun (c_23 : x5 ≤ (ga (C 30) (x4).toNatClampNeg)) => ?_) (fun (c_23 : ¬ (x5 ≤ (ga (C 30) (x4).toNatClampNeg))) => ?_)
            · refine lv_iconst (v := 0) hx hb dX6_whyNotTold_74 (by decide) ?_
              rw [hQ]
              exact W.iret (v := 0) hx hb hr (fun t ht hW => ⟨0, rfl, (fun _ => ⟨(rg_w u_4 (by decide)), (rg_w u_8 (by decide)), (rg_w u_13 (by decide)), (rg_w (rn_leu u_17.2 (rn_lel u_17.1 (rg_c (v := 0) (lo := 0) (hi := 0) (by decide)) (rg_any _)) (rg_c (v := 20) (lo := 20) (hi := 20) (by decide))) (by decide))⟩), ht⟩) (fun q h => by cases h) dX6_whyNotTold_75
            · refine lv_bipush (v := (-2)) hx hb dX6_whyNotTold_69 (by decide) ?_
              refine lv_goto (tgt := 75) hx hb dX6_whyNotTold_71 (by decide) ?_
              rw [hQ]
              exact W.iret (v := (-2)) hx hb hr (fun t ht hW => ⟨(-2), rfl, (fun h9 => absurd h9 (by decide)), ht⟩) (fun q h => by cases h) dX6_whyNotTold_75
          · refine lv_iload hx hb dX6_whyNotTold_51 (lv_at hl 0 rfl) ?_
            rw [hQ]
            exact W.iret (v := r_18) hx hb hr (fun t ht hW => ⟨r_18, rfl, (fun h9 => ⟨(rg_w u_4 (by decide)), (rg_w u_8 (by decide)), (rg_w u_13 (by decide)), (rg_w (rn_leu u_17.2 (rn_lel u_17.1 (rg_c (v := 0) (lo := 0) (hi := 0) (by decide)) (rg_any _)) (rg_c (v := 20) (lo := 20) (hi := 20) (by decide))) (by decide))⟩), ht⟩) (fun q h => by cases h) dX6_whyNotTold_53
        · have u_24 := hq_15.2.2 c_16
          refine lv_bipush (v := (-2)) hx hb dX6_whyNotTold_35 (by decide) ?_
          rw [hQ]
          exact W.iret (v := (-2)) hx hb hr (fun t ht hW => ⟨(-2), rfl, (fun h9 => absurd h9 (by decide)), ht⟩) (fun q h => by cases h) dX6_whyNotTold_37

set_option maxHeartbeats 4000000 in
set_option maxRecDepth 100000 in
theorem c_X6_firstWrong (l : Launch) (D : va_G) (E : Nat → ClassId) (G : Nat → Nat) (sz : Nat) (a : Nat → Nat) (C : Nat → va_E) (hT : TyX a E C) (x1 : Int32) (x2 : Int32) (x3 : Int32) (hx1 : rg x1 0 15) (hx2 : rg x2 0 7) (hx3 : rg x3 0 20) : Met l yX6_firstWrong (oh_w yX6_firstWrong cX6_firstWrong 5 (some .int)) ({ frames := 4, cells := 0, slots := 0, locals := 89 }) (oh_Pm D E G [.ref (a 0), .int x1, .int x2, .int x3] (oh_W 35 a C) sz) (va_Qi (fun r (u : Nat → va_E) => TyX a E u ∧ fr [(28, 29)] [] C u ∧ True) (oh_B D (va_A (oh_W 35 a C) sz) (fun u => oh_W 35 a u)) (va_A (oh_W 35 a C) sz)) 0 0 (va_A (oh_W 35 a C) sz) := by
  refine Met.ofW (cc := cX6_firstWrong) (maxL := 5) (ret := (some .int)) (by decide) rfl ?_
  intro p e s m args below meth c s₁ B hml hv
  obtain ⟨rfl, hsz, hP, hK, hD0, hG⟩ := hv
  have hx := B.exec
  have hb := B.bytes
  have hr := B.returns
  have hts := atoms_spec (ws := (oh_w yX6_firstWrong cX6_firstWrong 5 (some .int))) B.pre
  have htg : ∀ w ∈ oh_t, w.before _ s = true := fun w h => hts w (List.mem_cons_of_mem _ h)
  have hown : s.vm.findClass RX6 = some m.cls := findClass_of_methodNamed B.named
  have hlocks := B.notSynchronized
  have hT0 := hT
  subst hsz
  have hD := hD0.self (sz := s.heap.size)
  generalize hAe : va_A (oh_W 35 a C) s.heap.size = A at hD hG ⊢
  have hA : ∀ q : Nat, s.heap.size ≤ q → A q := fun q h => by rw [← hAe]; exact Or.inr h
  have hS : va_S A s.heap s.heap [] := va_S.rf
  have hF : fr [(28, 29)] [] C C := fr_rf
  have hl := lv_entry ([.ref (a 0), .int x1, .int x2, .int x3]) (n := 5) (Nat.le_of_ble_eq_true rfl)
  rw [lg_entry_eq]
  generalize (lg_sl ([.ref (a 0), .int x1, .int x2, .int x3]) ++ List.replicate (5 - (lg_sl ([.ref (a 0), .int x1, .int x2, .int x3])).length) Slot.unset).toArray = ls at hl ⊢
  have hl : lv_has ls 5 [(0, .ref (a 0)), (1, .int x1), (2, .int x2), (3, .int x3)] := hl
  refine oh_genQ (fun Q hQ => ?_)
  refine lv_aload_n hx hb dX6_firstWrong_0 rfl (lv_at hl 0 rfl) ?_
  refine va_get (D := D) (ci := 6) (v := .ref (a 3)) (C := RX6) (T := TX6) (N := 9) hx hb htg ig_6 hown hK hP 0 (oh_wg (by decide) (sX_0 hT)) rfl 3 (by decide) (htg _ q_261) (fun _ h9 => h9) rfl dX6_firstWrong_1 ?_
  refine lv_iload_n hx hb dX6_firstWrong_4 rfl (lv_at hl 1 rfl) ?_
  refine tm_Vv (As := [.int x1]) (rest := []) ⟨hx, hb, hml, hown, htg⟩ (c_X5_setOut l D E G _ a C hT x1 (rg_w hx1 (by decide))) (cwV 1 htg (oh_gV q_838 q_839 q_840 q_68 q_841) rfl rfl rfl pdVX5_setOut ⟨Nat.le_of_ble_eq_true rfl, Nat.le_of_ble_eq_true rfl⟩) hK hP hD hG hS hA (va_recv hK hP (ci := 5) (q0 := 3) rfl (oh_wg (by decide) (sX_3 hT))) rfl hl.1 rfl (Nat.le_of_ble_eq_true rfl) dX6_firstWrong_5 ⟨Nat.le_of_ble_eq_true rfl, Nat.le_of_ble_eq_true rfl⟩ (fun C_2 H locs hq_3 hP hD hS => ?_)
  obtain ⟨hT, f_4, hq_3⟩ := hq_3
  have hF := fr_tr hF f_4 (by decide) (by decide)
  refine W.widen (k := 0) (n := 0) (Nat.le_refl _) (Nat.le_refl _) ?_
  have t_5 := hT
  refine lv_iconst (v := 0) hx hb dX6_firstWrong_8 (by decide) ?_
  refine lv_istore (lv' := [(4, .int 0), (0, .ref (a 0)), (1, .int x1), (2, .int x2), (3, .int x3)]) hx hb dX6_firstWrong_9 hl (by decide) rfl (fun ls hl => ?_)
  have L_11 : ∀ (d : Nat) (K11 : Nat → va_E) (z11_4 : Int32) (H : Heap) (locs : List Loc) (ls : Array Slot), (20 - z11_4.toInt).toNat = d → rg z11_4 0 20 → TyX a E K11 → fr [(28, 29)] [] C K11 → fr [(28, 29)] [] C_2 K11 → va_P D vwCl (oh_W 35 a K11) H → va_D A (oh_W 35 a K11) → va_S A s.heap H locs → lv_has ls 5 [(4, .int z11_4), (0, .ref (a 0)), (1, .int x1), (2, .int x2), (3, .int x3)] → W p l e ({ frames := 4, cells := 0, slots := 0, locals := 89 }) s m (([.ref (a 0), .int x1, .int x2, .int x3] : List Value).toArray) below meth c H locs 0 0 Q (F0 m 11 ls []) := by
    intro d
    induction d using Nat.strongRecOn with
    | ind d ih_11 =>
    intro K11 z11_4 H locs ls hd_11 hz11_4 hT hF hLF_11 hP hD hS hl
    have t_6 := hT
    refine lv_iload hx hb dX6_firstWrong_11 (lv_at hl 0 rfl) ?_
    refine lv_iload_n hx hb dX6_firstWrong_13 rfl (lv_at hl 4 rfl) ?_
    refine lv_icmp_ge (tgt := 46) hx hb dX6_firstWrong_14 (by decide) (fun (c_7 : x3 ≤ z11_4) => ?_) (fun (c_7 : ¬ (x3 ≤ z11_4)) => ?_)
    · refine lv_iconst (v := (-1)) hx hb dX6_firstWrong_46 (by decide) ?_
      rw [hQ]
      exact W.iret (v := (-1)) hx hb hr (fun t ht hW => ⟨⟨(-1), K11, rfl, ⟨hT, hF, trivial⟩, ⟨by rw [ht]; exact hP, hD⟩⟩, hS.F ht⟩) hS.2.2 dX6_firstWrong_47
    · refine lv_aload_n hx hb dX6_firstWrong_17 rfl (lv_at hl 1 rfl) ?_
      refine va_get (D := D) (ci := 6) (v := .ref (a 3)) (C := RX6) (T := TX6) (N := 9) hx hb htg ig_6 hown hK hP 0 (oh_wg (by decide) (sX_0 hT)) rfl 3 (by decide) (htg _ q_261) (fun _ h9 => h9) rfl dX6_firstWrong_18 ?_
      refine lv_aload_n hx hb dX6_firstWrong_21 rfl (lv_at hl 1 rfl) ?_
      refine va_get (D := D) (ci := 6) (v := .ref (a 4)) (C := RX6) (T := TX6) (N := 9) hx hb htg ig_6 hown hK hP 0 (oh_wg (by decide) (sX_0 hT)) rfl 4 (by decide) (htg _ q_262) (fun _ h9 => h9) rfl dX6_firstWrong_22 ?_
      refine lv_iload_n hx hb dX6_firstWrong_25 rfl (lv_at hl 3 rfl) ?_
      refine lv_iload hx hb dX6_firstWrong_26 (lv_at hl 0 rfl) ?_
      refine tq_Vl (As := [.int x2, .int z11_4]) (rest := [.ref (a 3)]) (ws := (oh_W 35 a K11)) ⟨hx, hb, hml, hown, htg⟩ (c_X3_elementAt l D E G a K11 hT x2 z11_4 (rg_w hx2 (by decide))) (cwV 2 htg (oh_gV q_353 q_354 q_355 q_70 q_356) rfl rfl rfl pdVX3_elementAt ⟨Nat.le_of_ble_eq_true rfl, Nat.le_of_ble_eq_true rfl⟩) hK hP hG hS (va_recv hK hP (ci := 3) (q0 := 4) rfl (oh_wg (by decide) (sX_4 hT))) rfl hl.1 rfl (Nat.le_of_ble_eq_true rfl) dX6_firstWrong_28 ⟨Nat.le_of_ble_eq_true rfl, Nat.le_of_ble_eq_true rfl⟩ (fun r_8 hq_9 => ?_)
      refine tm_V (As := [.long r_8]) (rest := []) ⟨hx, hb, hml, hown, htg⟩ (c_X5_walk l D E G _ a K11 hT r_8) (cwV 1 htg (oh_gV q_842 q_843 q_844 q_68 q_845) rfl rfl rfl pdVX5_walk ⟨Nat.le_of_ble_eq_true rfl, Nat.le_of_ble_eq_true rfl⟩) hK hP hD hG hS hA (va_recv hK hP (ci := 5) (q0 := 3) rfl (oh_wg (by decide) (sX_3 hT))) rfl hl.1 rfl (Nat.le_of_ble_eq_true rfl) dX6_firstWrong_31 ⟨Nat.le_of_ble_eq_true rfl, Nat.le_of_ble_eq_true rfl⟩ (fun r_10 C_11 H locs hq_12 hP hD hS => ?_)
      obtain ⟨hT, f_13, hq_12⟩ := hq_12
      have hF := fr_tr hF f_13 (by decide) (by decide)
      refine W.widen (k := 0) (n := 0) (Nat.le_refl _) (Nat.le_refl _) ?_
      have t_14 := hT
      refine lv_if_ne (tgt := 40) hx hb dX6_firstWrong_34 (by decide) (fun (c_15 : ¬ (r_10 = 0)) => ?_) (fun (c_15 : r_10 = 0) => ?_)
      · refine lv_iinc (v := z11_4 + 1) (lv' := [(4, .int (z11_4 + 1)), (0, .ref (a 0)), (1, .int x1), (2, .int x2), (3, .int x3)]) hx hb dX6_firstWrong_40 hl (k := 0) rfl (by rfl) (by decide) rfl (fun ls hl => ?_)
        refine lv_goto (tgt := 11) hx hb dX6_firstWrong_43 (by decide) ?_
        exact ih_11 _ (hd_11 ▸ mu_up 20 (rn_ltu (u' := 19) (Int32.not_le.mp c_7) hz11_4 hx3 (by decide)) (by decide)) C_11 (z11_4 + 1) _ _ ls rfl (rg_w (rg_add (lo := 1) (hi := 20) (rn_ltu (u' := 19) (Int32.not_le.mp c_7) hz11_4 hx3 (by decide)) (rg_c (v := 1) (lo := 1) (hi := 1) (by decide)) (by decide)) (by decide)) hT hF (fr_tr hLF_11 f_13 (by decide) (by decide)) hP hD hS (lv_sub hl [0, 1, 2, 3, 4] rfl)
      · refine lv_iload hx hb dX6_firstWrong_37 (lv_at hl 0 rfl) ?_
        rw [hQ]
        exact W.iret (v := z11_4) hx hb hr (fun t ht hW => ⟨⟨z11_4, C_11, rfl, ⟨hT, hF, trivial⟩, ⟨by rw [ht]; exact hP, hD⟩⟩, hS.F ht⟩) hS.2.2 dX6_firstWrong_39
  exact L_11 _ C_2 0 _ _ ls rfl (rg_w (rg_c (v := 0) (lo := 0) (hi := 0) (by decide)) (by decide)) hT hF fr_rf hP hD hS (lv_sub hl [0, 1, 2, 3, 4] rfl)

set_option maxHeartbeats 4000000 in
set_option maxRecDepth 100000 in
theorem c_X6_spoken (l : Launch) (D : va_G) (E : Nat → ClassId) (G : Nat → Nat) (a : Nat → Nat) (C : Nat → va_E) (hT : TyX a E C) (x1 : Int32) (x2 : Int32) (hx1 : rg x1 0 15) : Met l yX6_spoken (oh_w yX6_spoken cX6_spoken 3 (some .int)) ({ frames := 2, cells := 0, slots := 0, locals := 51 }) (oh_Pp D E G [.ref (a 0), .int x1, .int x2] (oh_W 35 a C)) (vp_Si (fun r => True)) 0 0 (fun _ => False) := by
  refine Met.ofW (cc := cX6_spoken) (maxL := 3) (ret := (some .int)) (by decide) rfl ?_
  intro p e s m args below meth c s₁ B hml hv
  obtain ⟨rfl, hP, hK, hG⟩ := hv
  have hx := B.exec
  have hb := B.bytes
  have hr := B.returns
  have hts := atoms_spec (ws := (oh_w yX6_spoken cX6_spoken 3 (some .int))) B.pre
  have htg : ∀ w ∈ oh_t, w.before _ s = true := fun w h => hts w (List.mem_cons_of_mem _ h)
  have hown : s.vm.findClass RX6 = some m.cls := findClass_of_methodNamed B.named
  have hlocks := B.notSynchronized
  have hT0 := hT
  have hS : va_S (fun _ => False) s.heap s.heap [] := va_S.rf
  have hl := lv_entry ([.ref (a 0), .int x1, .int x2]) (n := 3) (Nat.le_of_ble_eq_true rfl)
  rw [lg_entry_eq]
  generalize (lg_sl ([.ref (a 0), .int x1, .int x2]) ++ List.replicate (3 - (lg_sl ([.ref (a 0), .int x1, .int x2])).length) Slot.unset).toArray = ls at hl ⊢
  have hl : lv_has ls 3 [(0, .ref (a 0)), (1, .int x1), (2, .int x2)] := hl
  refine oh_genQ (fun Q hQ => ?_)
  refine lv_iload_n hx hb dX6_spoken_0 rfl (lv_at hl 2 rfl) ?_
  by_cases c_1 : x2 = 0
  · refine lv_tableIn (off := 35) (tgt := 36) hx hb dX6_spoken_1 (by rw [c_1]; decide) (by rw [c_1]; decide) (by rw [c_1]; decide) (by decide) ?_
    refine lv_aload_n hx hb dX6_spoken_36 rfl (lv_at hl 0 rfl) ?_
    refine va_get (D := D) (ci := 6) (v := .ref (a 1)) (C := RX6) (T := TX6) (N := 9) hx hb htg ig_6 hown hK hP 0 (oh_wg (by decide) (sX_0 hT)) rfl 0 (by decide) (htg _ q_258) (fun _ h9 => h9) rfl dX6_spoken_37 ?_
    refine lv_iload_n hx hb dX6_spoken_40 rfl (lv_at hl 1 rfl) ?_
    refine lv_iconst (v := 0) hx hb dX6_spoken_41 (by decide) ?_
    refine tq_V (As := [.int x1, .int 0]) (rest := []) (ws := (oh_W 35 a C)) ⟨hx, hb, hml, hown, htg⟩ (c_X0_ofBridge l D E G a C hT x1 (0 : Int32) (rg_w hx1 (by decide)) (rg_w (rg_c (v := 0) (lo := 0) (hi := 0) (by decide)) (by decide))) (cwV 2 htg (oh_gV q_392 q_385 q_386 q_67 q_387) rfl rfl rfl pdVX0_ofBridge ⟨Nat.le_of_ble_eq_true rfl, Nat.le_of_ble_eq_true rfl⟩) hK hP hG hS (va_recv hK hP (ci := 0) (q0 := 1) rfl (oh_wg (by decide) (sX_1 hT))) rfl hl.1 rfl (Nat.le_of_ble_eq_true rfl) dX6_spoken_42 ⟨Nat.le_of_ble_eq_true rfl, Nat.le_of_ble_eq_true rfl⟩ (fun r_2 hq_3 => ?_)
    subst hq_3
    rw [hQ]
    exact W.iret (v := ga (C 12) ((x1 * 10) + 0).toNatClampNeg) hx hb hr (fun t ht hW => ⟨ga (C 12) ((x1 * 10) + 0).toNatClampNeg, rfl, trivial, ht⟩) (fun q h => by cases h) dX6_spoken_45
  · by_cases c_4 : x2 = 1
    · refine lv_tableIn (off := 45) (tgt := 46) hx hb dX6_spoken_1 (by rw [c_4]; decide) (by rw [c_4]; decide) (by rw [c_4]; decide) (by decide) ?_
      refine lv_aload_n hx hb dX6_spoken_46 rfl (lv_at hl 0 rfl) ?_
      refine va_get (D := D) (ci := 6) (v := .ref (a 1)) (C := RX6) (T := TX6) (N := 9) hx hb htg ig_6 hown hK hP 0 (oh_wg (by decide) (sX_0 hT)) rfl 0 (by decide) (htg _ q_258) (fun _ h9 => h9) rfl dX6_spoken_47 ?_
      refine lv_iload_n hx hb dX6_spoken_50 rfl (lv_at hl 1 rfl) ?_
      refine tq_V (As := [.int x1]) (rest := []) (ws := (oh_W 35 a C)) ⟨hx, hb, hml, hown, htg⟩ (c_X0_bearsAxle l D E G a C hT x1 (rg_w hx1 (by decide))) (cwV 1 htg (oh_gV q_393 q_394 q_395 q_67 q_396) rfl rfl rfl pdVX0_bearsAxle ⟨Nat.le_of_ble_eq_true rfl, Nat.le_of_ble_eq_true rfl⟩) hK hP hG hS (va_recv hK hP (ci := 0) (q0 := 1) rfl (oh_wg (by decide) (sX_1 hT))) rfl hl.1 rfl (Nat.le_of_ble_eq_true rfl) dX6_spoken_51 ⟨Nat.le_of_ble_eq_true rfl, Nat.le_of_ble_eq_true rfl⟩ (fun r_5 hq_6 => ?_)
      rw [hQ]
      exact W.iret (v := r_5) hx hb hr (fun t ht hW => ⟨r_5, rfl, trivial, ht⟩) (fun q h => by cases h) dX6_spoken_54
    · by_cases c_7 : x2 = 2
      · refine lv_tableIn (off := 45) (tgt := 46) hx hb dX6_spoken_1 (by rw [c_7]; decide) (by rw [c_7]; decide) (by rw [c_7]; decide) (by decide) ?_
        refine lv_aload_n hx hb dX6_spoken_46 rfl (lv_at hl 0 rfl) ?_
        refine va_get (D := D) (ci := 6) (v := .ref (a 1)) (C := RX6) (T := TX6) (N := 9) hx hb htg ig_6 hown hK hP 0 (oh_wg (by decide) (sX_0 hT)) rfl 0 (by decide) (htg _ q_258) (fun _ h9 => h9) rfl dX6_spoken_47 ?_
        refine lv_iload_n hx hb dX6_spoken_50 rfl (lv_at hl 1 rfl) ?_
        refine tq_V (As := [.int x1]) (rest := []) (ws := (oh_W 35 a C)) ⟨hx, hb, hml, hown, htg⟩ (c_X0_bearsAxle l D E G a C hT x1 (rg_w hx1 (by decide))) (cwV 1 htg (oh_gV q_393 q_394 q_395 q_67 q_396) rfl rfl rfl pdVX0_bearsAxle ⟨Nat.le_of_ble_eq_true rfl, Nat.le_of_ble_eq_true rfl⟩) hK hP hG hS (va_recv hK hP (ci := 0) (q0 := 1) rfl (oh_wg (by decide) (sX_1 hT))) rfl hl.1 rfl (Nat.le_of_ble_eq_true rfl) dX6_spoken_51 ⟨Nat.le_of_ble_eq_true rfl, Nat.le_of_ble_eq_true rfl⟩ (fun r_8 hq_9 => ?_)
        rw [hQ]
        exact W.iret (v := r_8) hx hb hr (fun t ht hW => ⟨r_8, rfl, trivial, ht⟩) (fun q h => by cases h) dX6_spoken_54
      · by_cases c_10 : x2 = 3
        · refine lv_tableIn (off := 54) (tgt := 55) hx hb dX6_spoken_1 (by rw [c_10]; decide) (by rw [c_10]; decide) (by rw [c_10]; decide) (by decide) ?_
          refine lv_aload_n hx hb dX6_spoken_55 rfl (lv_at hl 0 rfl) ?_
          refine va_get (D := D) (ci := 6) (v := .ref (a 1)) (C := RX6) (T := TX6) (N := 9) hx hb htg ig_6 hown hK hP 0 (oh_wg (by decide) (sX_0 hT)) rfl 0 (by decide) (htg _ q_258) (fun _ h9 => h9) rfl dX6_spoken_56 ?_
          refine lv_iload_n hx hb dX6_spoken_59 rfl (lv_at hl 1 rfl) ?_
          refine lv_iconst (v := 2) hx hb dX6_spoken_60 (by decide) ?_
          refine tq_V (As := [.int x1, .int 2]) (rest := []) (ws := (oh_W 35 a C)) ⟨hx, hb, hml, hown, htg⟩ (c_X0_ofBridge l D E G a C hT x1 (2 : Int32) (rg_w hx1 (by decide)) (rg_w (rg_c (v := 2) (lo := 2) (hi := 2) (by decide)) (by decide))) (cwV 2 htg (oh_gV q_392 q_385 q_386 q_67 q_387) rfl rfl rfl pdVX0_ofBridge ⟨Nat.le_of_ble_eq_true rfl, Nat.le_of_ble_eq_true rfl⟩) hK hP hG hS (va_recv hK hP (ci := 0) (q0 := 1) rfl (oh_wg (by decide) (sX_1 hT))) rfl hl.1 rfl (Nat.le_of_ble_eq_true rfl) dX6_spoken_61 ⟨Nat.le_of_ble_eq_true rfl, Nat.le_of_ble_eq_true rfl⟩ (fun r_11 hq_12 => ?_)
          subst hq_12
          rw [hQ]
          exact W.iret (v := ga (C 12) ((x1 * 10) + 2).toNatClampNeg) hx hb hr (fun t ht hW => ⟨ga (C 12) ((x1 * 10) + 2).toNatClampNeg, rfl, trivial, ht⟩) (fun q h => by cases h) dX6_spoken_64
        · by_cases c_13 : x2 = 4
          · refine lv_tableIn (off := 64) (tgt := 65) hx hb dX6_spoken_1 (by rw [c_13]; decide) (by rw [c_13]; decide) (by rw [c_13]; decide) (by decide) ?_
            refine lv_aload_n hx hb dX6_spoken_65 rfl (lv_at hl 0 rfl) ?_
            refine va_get (D := D) (ci := 6) (v := .ref (a 1)) (C := RX6) (T := TX6) (N := 9) hx hb htg ig_6 hown hK hP 0 (oh_wg (by decide) (sX_0 hT)) rfl 0 (by decide) (htg _ q_258) (fun _ h9 => h9) rfl dX6_spoken_66 ?_
            refine lv_iload_n hx hb dX6_spoken_69 rfl (lv_at hl 1 rfl) ?_
            refine lv_bipush (v := 9) hx hb dX6_spoken_70 (by decide) ?_
            refine tq_V (As := [.int x1, .int 9]) (rest := []) (ws := (oh_W 35 a C)) ⟨hx, hb, hml, hown, htg⟩ (c_X0_ofBridge l D E G a C hT x1 (9 : Int32) (rg_w hx1 (by decide)) (rg_w (rg_c (v := 9) (lo := 9) (hi := 9) (by decide)) (by decide))) (cwV 2 htg (oh_gV q_392 q_385 q_386 q_67 q_387) rfl rfl rfl pdVX0_ofBridge ⟨Nat.le_of_ble_eq_true rfl, Nat.le_of_ble_eq_true rfl⟩) hK hP hG hS (va_recv hK hP (ci := 0) (q0 := 1) rfl (oh_wg (by decide) (sX_1 hT))) rfl hl.1 rfl (Nat.le_of_ble_eq_true rfl) dX6_spoken_72 ⟨Nat.le_of_ble_eq_true rfl, Nat.le_of_ble_eq_true rfl⟩ (fun r_14 hq_15 => ?_)
            subst hq_15
            rw [hQ]
            exact W.iret (v := ga (C 12) ((x1 * 10) + 9).toNatClampNeg) hx hb hr (fun t ht hW => ⟨ga (C 12) ((x1 * 10) + 9).toNatClampNeg, rfl, trivial, ht⟩) (fun q h => by cases h) dX6_spoken_75
          · refine lv_tableOut (tgt := 76) hx hb dX6_spoken_1 (by have h9 := And.intro (oh_ne c_1 (k := 0) (by decide)) (And.intro (oh_ne c_4 (k := 1) (by decide)) (And.intro (oh_ne c_7 (k := 2) (by decide)) (And.intro (oh_ne c_10 (k := 3) (by decide)) (And.intro (oh_ne c_13 (k := 4) (by decide)) trivial)))); omega) (by decide) ?_
            refine lv_aload_n hx hb dX6_spoken_76 rfl (lv_at hl 0 rfl) ?_
            refine va_get (D := D) (ci := 6) (v := .ref (a 1)) (C := RX6) (T := TX6) (N := 9) hx hb htg ig_6 hown hK hP 0 (oh_wg (by decide) (sX_0 hT)) rfl 0 (by decide) (htg _ q_258) (fun _ h9 => h9) rfl dX6_spoken_77 ?_
            refine lv_iload_n hx hb dX6_spoken_80 rfl (lv_at hl 1 rfl) ?_
            refine lv_aload_n hx hb dX6_spoken_81 rfl (lv_at hl 0 rfl) ?_
            refine va_get (D := D) (ci := 6) (v := .ref (a 1)) (C := RX6) (T := TX6) (N := 9) hx hb htg ig_6 hown hK hP 0 (oh_wg (by decide) (sX_0 hT)) rfl 0 (by decide) (htg _ q_258) (fun _ h9 => h9) rfl dX6_spoken_82 ?_
            refine lv_iload_n hx hb dX6_spoken_85 rfl (lv_at hl 1 rfl) ?_
            refine tq_V (As := [.int x1]) (rest := [.int x1, .ref (a 1)]) (ws := (oh_W 35 a C)) ⟨hx, hb, hml, hown, htg⟩ (c_X0_isPropped l D E G a C hT x1 (rg_w hx1 (by decide))) (cwV 1 htg (oh_gV q_401 q_402 q_403 q_67 q_404) rfl rfl rfl pdVX0_isPropped ⟨Nat.le_of_ble_eq_true rfl, Nat.le_of_ble_eq_true rfl⟩) hK hP hG hS (va_recv hK hP (ci := 0) (q0 := 1) rfl (oh_wg (by decide) (sX_1 hT))) rfl hl.1 rfl (Nat.le_of_ble_eq_true rfl) dX6_spoken_86 ⟨Nat.le_of_ble_eq_true rfl, Nat.le_of_ble_eq_true rfl⟩ (fun r_16 hq_17 => ?_)
            refine tq_V (As := [.int x1, .int r_16]) (rest := []) (ws := (oh_W 35 a C)) ⟨hx, hb, hml, hown, htg⟩ (c_X0_bearsAll l D E G a C hT x1 r_16 (rg_w hx1 (by decide)) (rg_w (oh_rgb hq_17) (by decide))) (cwV 2 htg (oh_gV q_405 q_406 q_407 q_67 q_408) rfl rfl rfl pdVX0_bearsAll ⟨Nat.le_of_ble_eq_true rfl, Nat.le_of_ble_eq_true rfl⟩) hK hP hG hS (va_recv hK hP (ci := 0) (q0 := 1) rfl (oh_wg (by decide) (sX_1 hT))) rfl hl.1 rfl (Nat.le_of_ble_eq_true rfl) dX6_spoken_89 ⟨Nat.le_of_ble_eq_true rfl, Nat.le_of_ble_eq_true rfl⟩ (fun r_18 hq_19 => ?_)
            rw [hQ]
            exact W.iret (v := r_18) hx hb hr (fun t ht hW => ⟨r_18, rfl, trivial, ht⟩) (fun q h => by cases h) dX6_spoken_92

set_option maxHeartbeats 4000000 in
set_option maxRecDepth 100000 in
theorem c_X6_findBest (l : Launch) (D : va_G) (E : Nat → ClassId) (G : Nat → Nat) (sz : Nat) (a : Nat → Nat) (C : Nat → va_E) (hT : TyX a E C) (x1 : Int32) (x2 : Int32) (hx1 : rg x1 0 15) (hx2 : rg x2 0 15) : Met l yX6_findBest (oh_w yX6_findBest cX6_findBest 6 none) ({ frames := 5, cells := 0, slots := 0, locals := 125 }) (oh_Pm D E G [.ref (a 0), .int x1, .int x2] (oh_W 35 a C) sz) (va_Qv (fun (u : Nat → va_E) => TyX a E u ∧ fr [(8, 10), (24, 28)] [] C u ∧ True) (oh_B D (va_A (oh_W 35 a C) sz) (fun u => oh_W 35 a u)) (va_A (oh_W 35 a C) sz)) 0 0 (va_A (oh_W 35 a C) sz) := by
  refine Met.ofW (cc := cX6_findBest) (maxL := 6) (ret := none) (by decide) rfl ?_
  intro p e s m args below meth c s₁ B hml hv
  obtain ⟨rfl, hsz, hP, hK, hD0, hG⟩ := hv
  have hx := B.exec
  have hb := B.bytes
  have hr := B.returns
  have hts := atoms_spec (ws := (oh_w yX6_findBest cX6_findBest 6 none)) B.pre
  have htg : ∀ w ∈ oh_t, w.before _ s = true := fun w h => hts w (List.mem_cons_of_mem _ h)
  have hown : s.vm.findClass RX6 = some m.cls := findClass_of_methodNamed B.named
  have hlocks := B.notSynchronized
  have hT0 := hT
  subst hsz
  have hD := hD0.self (sz := s.heap.size)
  generalize hAe : va_A (oh_W 35 a C) s.heap.size = A at hD hG ⊢
  have hA : ∀ q : Nat, s.heap.size ≤ q → A q := fun q h => by rw [← hAe]; exact Or.inr h
  have hS : va_S A s.heap s.heap [] := va_S.rf
  have hF : fr [(8, 10), (24, 28)] [] C C := fr_rf
  have hl := lv_entry ([.ref (a 0), .int x1, .int x2]) (n := 6) (Nat.le_of_ble_eq_true rfl)
  rw [lg_entry_eq]
  generalize (lg_sl ([.ref (a 0), .int x1, .int x2]) ++ List.replicate (6 - (lg_sl ([.ref (a 0), .int x1, .int x2])).length) Slot.unset).toArray = ls at hl ⊢
  have hl : lv_has ls 6 [(0, .ref (a 0)), (1, .int x1), (2, .int x2)] := hl
  refine oh_genQ (fun Q hQ => ?_)
  refine lv_aload_n hx hb dX6_findBest_0 rfl (lv_at hl 0 rfl) ?_
  refine va_get (D := D) (ci := 6) (v := .ref (a 8)) (C := RX6) (T := TX6) (N := 9) hx hb htg ig_6 hown hK hP 0 (oh_wg (by decide) (sX_0 hT)) rfl 8 (by decide) (htg _ q_266) (fun _ h9 => h9) rfl dX6_findBest_1 ?_
  refine lv_iconst (v := 2) hx hb dX6_findBest_4 (by decide) ?_
  refine lv_ldc (v := 1000000000) hx hb hown (htg _ q_803) dX6_findBest_5 ?_
  refine th_iast (T := TyX a E) (Rl := fr [(8, 10), (24, 28)] [] C) hx hb hK hP hD hS 8 (by decide) (sX_8 hT) (rg_in (rg_c (v := 2) (lo := 2) (hi := 2) (by decide)) (by decide)) (hT.up 8 (tA_upd (tX_8 hT) tA_any)) (fr_st hF (by decide) (by decide)) dX6_findBest_7 (fun C_1 H locs e_2 hT hF hP hD hS => ?_)
  have t_3 := hT
  refine lv_iconst (v := 0) hx hb dX6_findBest_8 (by decide) ?_
  refine lv_istore_n (lv' := [(3, .int 0), (0, .ref (a 0)), (1, .int x1), (2, .int x2)]) hx hb dX6_findBest_9 rfl hl (by decide) rfl (fun ls hl => ?_)
  have L_10 : ∀ (d : Nat) (K10 : Nat → va_E) (z10_3 : Int32) (H : Heap) (locs : List Loc) (ls : Array Slot), (5 - z10_3.toInt).toNat = d → rg z10_3 0 5 → TyX a E K10 → fr [(8, 10), (24, 28)] [] C K10 → fr [(8, 10), (24, 28)] [] C_1 K10 → va_P D vwCl (oh_W 35 a K10) H → va_D A (oh_W 35 a K10) → va_S A s.heap H locs → lv_has ls 6 [(3, .int z10_3), (0, .ref (a 0)), (1, .int x1), (2, .int x2)] → W p l e ({ frames := 5, cells := 0, slots := 0, locals := 125 }) s m (([.ref (a 0), .int x1, .int x2] : List Value).toArray) below meth c H locs 0 0 Q (F0 m 10 ls []) := by
    intro d
    induction d using Nat.strongRecOn with
    | ind d ih_10 =>
    intro K10 z10_3 H locs ls hd_10 hz10_3 hT hF hLF_10 hP hD hS hl
    have t_4 := hT
    refine lv_iload_n hx hb dX6_findBest_10 rfl (lv_at hl 0 rfl) ?_
    refine lv_aload_n hx hb dX6_findBest_11 rfl (lv_at hl 1 rfl) ?_
    refine va_get (D := D) (ci := 6) (v := .ref (a 1)) (C := RX6) (T := TX6) (N := 9) hx hb htg ig_6 hown hK hP 0 (oh_wg (by decide) (sX_0 hT)) rfl 0 (by decide) (htg _ q_258) (fun _ h9 => h9) rfl dX6_findBest_12 ?_
    refine va_get (D := D) (ci := 0) (v := .ref (a 10)) (C := RX0) (T := TX0) (N := 8) hx hb htg ig_0 hown hK hP 1 (oh_wg (by decide) (sX_1 hT)) rfl 0 (by decide) (htg _ q_100) (fun _ h9 => h9) rfl dX6_findBest_15 ?_
    refine lv_iconst (v := 2) hx hb dX6_findBest_18 (by decide) ?_
    refine th_iald hx hb hK hP 10 (by decide) (Eq.trans (Eq.trans (hLF_10.1 10 rfl (by decide)) (th_un e_2 (by decide))) (sX_10 hT0)) (rg_in (rg_c (v := 2) (lo := 2) (hi := 2) (by decide)) (by decide)) dX6_findBest_19 ?_
    refine lv_icmp_ge (tgt := 118) hx hb dX6_findBest_20 (by decide) (fun (c_5 : (ga (C 10) ((2 : Int32)).toNatClampNeg) ≤ z10_3) => ?_) (fun (c_5 : ¬ ((ga (C 10) ((2 : Int32)).toNatClampNeg) ≤ z10_3)) => ?_)
    · rw [hQ]
      exact W.vret hx hb hr (fun t ht hW => ⟨⟨K10, rfl, ⟨hT, hF, trivial⟩, ⟨by rw [ht]; exact hP, hD⟩⟩, hS.F ht⟩) hS.2.2 dX6_findBest_118
    · refine lv_iconst (v := 0) hx hb dX6_findBest_23 (by decide) ?_
      refine lv_istore (lv' := [(4, .int 0), (3, .int z10_3), (0, .ref (a 0)), (1, .int x1), (2, .int x2)]) hx hb dX6_findBest_24 hl (by decide) rfl (fun ls hl => ?_)
      have L_26 : ∀ (d : Nat) (K26 : Nat → va_E) (z26_4 : Int32) (H : Heap) (locs : List Loc) (ls : Array Slot), (32 - z26_4.toInt).toNat = d → rg z26_4 0 32 → TyX a E K26 → fr [(8, 10), (24, 28)] [] C K26 → fr [(8, 10), (24, 28)] [] K10 K26 → va_P D vwCl (oh_W 35 a K26) H → va_D A (oh_W 35 a K26) → va_S A s.heap H locs → lv_has ls 6 [(4, .int z26_4), (3, .int z10_3), (0, .ref (a 0)), (1, .int x1), (2, .int x2)] → W p l e ({ frames := 5, cells := 0, slots := 0, locals := 125 }) s m (([.ref (a 0), .int x1, .int x2] : List Value).toArray) below meth c H locs 0 0 Q (F0 m 26 ls []) := by
        intro d
        induction d using Nat.strongRecOn with
        | ind d ih_26 =>
        intro K26 z26_4 H locs ls hd_26 hz26_4 hT hF hLF_26 hP hD hS hl
        have t_6 := hT
        refine lv_iload hx hb dX6_findBest_26 (lv_at hl 0 rfl) ?_
        refine lv_aload_n hx hb dX6_findBest_28 rfl (lv_at hl 2 rfl) ?_
        refine va_get (D := D) (ci := 6) (v := .ref (a 1)) (C := RX6) (T := TX6) (N := 9) hx hb htg ig_6 hown hK hP 0 (oh_wg (by decide) (sX_0 hT)) rfl 0 (by decide) (htg _ q_258) (fun _ h9 => h9) rfl dX6_findBest_29 ?_
        refine tq_V (As := []) (rest := [.int z26_4]) (ws := (oh_W 35 a K26)) ⟨hx, hb, hml, hown, htg⟩ (c_X0_setsOfParts l D E G a K26 hT) (cwV 0 htg (oh_gV q_699 q_700 q_701 q_67 q_702) rfl rfl rfl pdVX0_setsOfParts ⟨Nat.le_of_ble_eq_true rfl, Nat.le_of_ble_eq_true rfl⟩) hK hP hG hS (va_recv hK hP (ci := 0) (q0 := 1) rfl (oh_wg (by decide) (sX_1 hT))) rfl hl.1 rfl (Nat.le_of_ble_eq_true rfl) dX6_findBest_32 ⟨Nat.le_of_ble_eq_true rfl, Nat.le_of_ble_eq_true rfl⟩ (fun r_7 hq_8 => ?_)
        refine lv_icmp_ge (tgt := 112) hx hb dX6_findBest_35 (by decide) (fun (c_9 : r_7 ≤ z26_4) => ?_) (fun (c_9 : ¬ (r_7 ≤ z26_4)) => ?_)
        · refine lv_iinc (v := z10_3 + 1) (lv' := [(3, .int (z10_3 + 1)), (4, .int z26_4), (0, .ref (a 0)), (1, .int x1), (2, .int x2)]) hx hb dX6_findBest_112 hl (k := 1) rfl (by rfl) (by decide) rfl (fun ls hl => ?_)
          refine lv_goto (tgt := 10) hx hb dX6_findBest_115 (by decide) ?_
          exact ih_10 _ (hd_10 ▸ mu_up 5 (rn_ltu (u' := 4) (Int32.not_le.mp c_5) hz10_3 (tA_rdc (lo := 0) (hi := 5) (tX_10 hT0) (rg_in (rg_c (v := 2) (lo := 2) (hi := 2) (by decide)) (by decide)) (show _ = 2 by decide) (by decide)) (by decide)) (by decide)) K26 (z10_3 + 1) _ _ ls rfl (rg_w (rg_add (lo := 1) (hi := 5) (rn_ltu (u' := 4) (Int32.not_le.mp c_5) hz10_3 (tA_rdc (lo := 0) (hi := 5) (tX_10 hT0) (rg_in (rg_c (v := 2) (lo := 2) (hi := 2) (by decide)) (by decide)) (show _ = 2 by decide) (by decide)) (by decide)) (rg_c (v := 1) (lo := 1) (hi := 1) (by decide)) (by decide)) (by decide)) hT hF (fr_tr hLF_10 hLF_26 (by decide) (by decide)) hP hD hS (lv_sub hl [0, 2, 3, 4] rfl)
        · refine lv_aload_n hx hb dX6_findBest_38 rfl (lv_at hl 2 rfl) ?_
          refine va_get (D := D) (ci := 6) (v := .ref (a 1)) (C := RX6) (T := TX6) (N := 9) hx hb htg ig_6 hown hK hP 0 (oh_wg (by decide) (sX_0 hT)) rfl 0 (by decide) (htg _ q_258) (fun _ h9 => h9) rfl dX6_findBest_39 ?_
          refine lv_iload hx hb dX6_findBest_42 (lv_at hl 0 rfl) ?_
          refine lv_iconst (v := 1) hx hb dX6_findBest_44 (by decide) ?_
          refine tq_V (As := [.int z26_4, .int 1]) (rest := []) (ws := (oh_W 35 a K26)) ⟨hx, hb, hml, hown, htg⟩ (c_X0_sumOfParts l D E G a K26 hT z26_4 (1 : Int32) (rg_w (rg_c (v := 1) (lo := 1) (hi := 1) (by decide)) (by decide))) (cwV 2 htg (oh_gV q_825 q_710 q_711 q_67 q_712) rfl rfl rfl pdVX0_sumOfParts ⟨Nat.le_of_ble_eq_true rfl, Nat.le_of_ble_eq_true rfl⟩) hK hP hG hS (va_recv hK hP (ci := 0) (q0 := 1) rfl (oh_wg (by decide) (sX_1 hT))) rfl hl.1 rfl (Nat.le_of_ble_eq_true rfl) dX6_findBest_45 ⟨Nat.le_of_ble_eq_true rfl, Nat.le_of_ble_eq_true rfl⟩ (fun r_10 hq_11 => ?_)
          refine lv_aload_n hx hb dX6_findBest_48 rfl (lv_at hl 2 rfl) ?_
          refine va_get (D := D) (ci := 6) (v := .ref (a 8)) (C := RX6) (T := TX6) (N := 9) hx hb htg ig_6 hown hK hP 0 (oh_wg (by decide) (sX_0 hT)) rfl 8 (by decide) (htg _ q_266) (fun _ h9 => h9) rfl dX6_findBest_49 ?_
          refine lv_iconst (v := 2) hx hb dX6_findBest_52 (by decide) ?_
          refine th_iald hx hb hK hP 8 (by decide) (sX_8 hT) (rg_in (rg_c (v := 2) (lo := 2) (hi := 2) (by decide)) (by decide)) dX6_findBest_53 ?_
          refine lv_icmp_ge (tgt := 106) hx hb dX6_findBest_54 (by decide) (fun (c_12 : (ga (K26 8) ((2 : Int32)).toNatClampNeg) ≤ r_10) => ?_) (fun (c_12 : ¬ ((ga (K26 8) ((2 : Int32)).toNatClampNeg) ≤ r_10)) => ?_)
          · refine lv_iinc (v := z26_4 + 1) (lv' := [(4, .int (z26_4 + 1)), (3, .int z10_3), (0, .ref (a 0)), (1, .int x1), (2, .int x2)]) hx hb dX6_findBest_106 hl (k := 0) rfl (by rfl) (by decide) rfl (fun ls hl => ?_)
            refine lv_goto (tgt := 26) hx hb dX6_findBest_109 (by decide) ?_
            exact ih_26 _ (hd_26 ▸ mu_up 32 (rn_ltu (u' := 31) (Int32.not_le.mp c_9) hz26_4 hq_8 (by decide)) (by decide)) K26 (z26_4 + 1) _ _ ls rfl (rg_w (rg_add (lo := 1) (hi := 32) (rn_ltu (u' := 31) (Int32.not_le.mp c_9) hz26_4 hq_8 (by decide)) (rg_c (v := 1) (lo := 1) (hi := 1) (by decide)) (by decide)) (by decide)) hT hF hLF_26 hP hD hS (lv_sub hl [0, 1, 2, 3, 4] rfl)
          · refine lv_aload_n hx hb dX6_findBest_57 rfl (lv_at hl 2 rfl) ?_
            refine va_get (D := D) (ci := 6) (v := .ref (a 3)) (C := RX6) (T := TX6) (N := 9) hx hb htg ig_6 hown hK hP 0 (oh_wg (by decide) (sX_0 hT)) rfl 3 (by decide) (htg _ q_261) (fun _ h9 => h9) rfl dX6_findBest_58 ?_
            refine lv_iload_n hx hb dX6_findBest_61 rfl (lv_at hl 1 rfl) ?_
            refine lv_iload hx hb dX6_findBest_62 (lv_at hl 0 rfl) ?_
            refine lv_iload_n hx hb dX6_findBest_64 rfl (lv_at hl 3 rfl) ?_
            refine lv_iload_n hx hb dX6_findBest_65 rfl (lv_at hl 4 rfl) ?_
            refine lv_iconst (v := 1) hx hb dX6_findBest_66 (by decide) ?_
            refine tm_V (As := [.int z10_3, .int z26_4, .int x1, .int x2, .int 1]) (rest := []) ⟨hx, hb, hml, hown, htg⟩ (c_X5_leastCoin l D E G _ a K26 hT z10_3 z26_4 x1 x2 (1 : Int32) (rg_w (rn_ltu (u' := 4) (Int32.not_le.mp c_5) hz10_3 (tA_rdc (lo := 0) (hi := 5) (tX_10 hT0) (rg_in (rg_c (v := 2) (lo := 2) (hi := 2) (by decide)) (by decide)) (show _ = 2 by decide) (by decide)) (by decide)) (by decide)) (rg_w hx1 (by decide)) (rg_w hx2 (by decide))) (cwV 5 htg (oh_gV q_780 q_781 q_782 q_68 q_783) rfl rfl rfl pdVX5_leastCoin ⟨Nat.le_of_ble_eq_true rfl, Nat.le_of_ble_eq_true rfl⟩) hK hP hD hG hS hA (va_recv hK hP (ci := 5) (q0 := 3) rfl (oh_wg (by decide) (sX_3 hT))) rfl hl.1 rfl (Nat.le_of_ble_eq_true rfl) dX6_findBest_67 ⟨Nat.le_of_ble_eq_true rfl, Nat.le_of_ble_eq_true rfl⟩ (fun r_13 C_14 H locs hq_15 hP hD hS => ?_)
            obtain ⟨hT, f_16, hq_15⟩ := hq_15
            have hF := fr_tr hF f_16 (by decide) (by decide)
            refine W.widen (k := 0) (n := 0) (Nat.le_refl _) (Nat.le_refl _) ?_
            have t_17 := hT
            refine lv_istore (lv' := [(5, .int r_13), (4, .int z26_4), (3, .int z10_3), (0, .ref (a 0)), (1, .int x1), (2, .int x2)]) hx hb dX6_findBest_70 hl (by decide) rfl (fun ls hl => ?_)
            refine lv_iload hx hb dX6_findBest_72 (lv_at hl 0 rfl) ?_
            refine lv_aload_n hx hb dX6_findBest_74 rfl (lv_at hl 3 rfl) ?_
            refine va_get (D := D) (ci := 6) (v := .ref (a 8)) (C := RX6) (T := TX6) (N := 9) hx hb htg ig_6 hown hK hP 0 (oh_wg (by decide) (sX_0 hT)) rfl 8 (by decide) (htg _ q_266) (fun _ h9 => h9) rfl dX6_findBest_75 ?_
            refine lv_iconst (v := 2) hx hb dX6_findBest_78 (by decide) ?_
            refine th_iald hx hb hK hP 8 (by decide) (Eq.trans (f_16.1 8 rfl (by decide)) (sX_8 t_6)) (rg_in (rg_c (v := 2) (lo := 2) (hi := 2) (by decide)) (by decide)) dX6_findBest_79 ?_
            refine lv_icmp_ge (tgt := 106) hx hb dX6_findBest_80 (by decide) (fun (c_18 : (ga (K26 8) ((2 : Int32)).toNatClampNeg) ≤ r_13) => ?_) (fun (c_18 : ¬ ((ga (K26 8) ((2 : Int32)).toNatClampNeg) ≤ r_13)) => ?_)
            · refine lv_iinc (v := z26_4 + 1) (lv' := [(4, .int (z26_4 + 1)), (5, .int r_13), (3, .int z10_3), (0, .ref (a 0)), (1, .int x1), (2, .int x2)]) hx hb dX6_findBest_106 hl (k := 1) rfl (by rfl) (by decide) rfl (fun ls hl => ?_)
              refine lv_goto (tgt := 26) hx hb dX6_findBest_109 (by decide) ?_
              exact ih_26 _ (hd_26 ▸ mu_up 32 (rn_ltu (u' := 31) (Int32.not_le.mp c_9) hz26_4 hq_8 (by decide)) (by decide)) C_14 (z26_4 + 1) _ _ ls rfl (rg_w (rg_add (lo := 1) (hi := 32) (rn_ltu (u' := 31) (Int32.not_le.mp c_9) hz26_4 hq_8 (by decide)) (rg_c (v := 1) (lo := 1) (hi := 1) (by decide)) (by decide)) (by decide)) hT hF (fr_tr hLF_26 f_16 (by decide) (by decide)) hP hD hS (lv_sub hl [0, 2, 3, 4, 5] rfl)
            · refine lv_aload_n hx hb dX6_findBest_83 rfl (lv_at hl 3 rfl) ?_
              refine va_get (D := D) (ci := 6) (v := .ref (a 8)) (C := RX6) (T := TX6) (N := 9) hx hb htg ig_6 hown hK hP 0 (oh_wg (by decide) (sX_0 hT)) rfl 8 (by decide) (htg _ q_266) (fun _ h9 => h9) rfl dX6_findBest_84 ?_
              refine lv_iconst (v := 0) hx hb dX6_findBest_87 (by decide) ?_
              refine lv_iload_n hx hb dX6_findBest_88 rfl (lv_at hl 2 rfl) ?_
              refine th_iast (T := TyX a E) (Rl := fr [(8, 10), (24, 28)] [] C) hx hb hK hP hD hS 8 (by decide) (sX_8 hT) (rg_in (rg_c (v := 0) (lo := 0) (hi := 0) (by decide)) (by decide)) (hT.up 8 (tA_upd (tX_8 hT) tA_any)) (fr_st hF (by decide) (by decide)) dX6_findBest_89 (fun C_19 H locs e_20 hT hF hP hD hS => ?_)
              have t_21 := hT
              refine lv_aload_n hx hb dX6_findBest_90 rfl (lv_at hl 3 rfl) ?_
              refine va_get (D := D) (ci := 6) (v := .ref (a 8)) (C := RX6) (T := TX6) (N := 9) hx hb htg ig_6 hown hK hP 0 (oh_wg (by decide) (sX_0 hT)) rfl 8 (by decide) (htg _ q_266) (fun _ h9 => h9) rfl dX6_findBest_91 ?_
              refine lv_iconst (v := 1) hx hb dX6_findBest_94 (by decide) ?_
              refine lv_iload hx hb dX6_findBest_95 (lv_at hl 1 rfl) ?_
              refine th_iast (T := TyX a E) (Rl := fr [(8, 10), (24, 28)] [] C) hx hb hK hP hD hS 8 (by decide) (sX_8 hT) (rg_in (rg_c (v := 1) (lo := 1) (hi := 1) (by decide)) (by decide)) (hT.up 8 (tA_upd (tX_8 hT) tA_any)) (fr_st hF (by decide) (by decide)) dX6_findBest_97 (fun C_22 H locs e_23 hT hF hP hD hS => ?_)
              have t_24 := hT
              refine lv_aload_n hx hb dX6_findBest_98 rfl (lv_at hl 3 rfl) ?_
              refine va_get (D := D) (ci := 6) (v := .ref (a 8)) (C := RX6) (T := TX6) (N := 9) hx hb htg ig_6 hown hK hP 0 (oh_wg (by decide) (sX_0 hT)) rfl 8 (by decide) (htg _ q_266) (fun _ h9 => h9) rfl dX6_findBest_99 ?_
              refine lv_iconst (v := 2) hx hb dX6_findBest_102 (by decide) ?_
              refine lv_iload hx hb dX6_findBest_103 (lv_at hl 0 rfl) ?_
              refine th_iast (T := TyX a E) (Rl := fr [(8, 10), (24, 28)] [] C) hx hb hK hP hD hS 8 (by decide) (sX_8 hT) (rg_in (rg_c (v := 2) (lo := 2) (hi := 2) (by decide)) (by decide)) (hT.up 8 (tA_upd (tX_8 hT) tA_any)) (fr_st hF (by decide) (by decide)) dX6_findBest_105 (fun C_25 H locs e_26 hT hF hP hD hS => ?_)
              have t_27 := hT
              refine lv_iinc (v := z26_4 + 1) (lv' := [(4, .int (z26_4 + 1)), (5, .int r_13), (3, .int z10_3), (0, .ref (a 0)), (1, .int x1), (2, .int x2)]) hx hb dX6_findBest_106 hl (k := 1) rfl (by rfl) (by decide) rfl (fun ls hl => ?_)
              refine lv_goto (tgt := 26) hx hb dX6_findBest_109 (by decide) ?_
              exact ih_26 _ (hd_26 ▸ mu_up 32 (rn_ltu (u' := 31) (Int32.not_le.mp c_9) hz26_4 hq_8 (by decide)) (by decide)) C_25 (z26_4 + 1) _ _ ls rfl (rg_w (rg_add (lo := 1) (hi := 32) (rn_ltu (u' := 31) (Int32.not_le.mp c_9) hz26_4 hq_8 (by decide)) (rg_c (v := 1) (lo := 1) (hi := 1) (by decide)) (by decide)) (by decide)) hT hF (fr_ste (fr_ste (fr_ste (fr_tr hLF_26 f_16 (by decide) (by decide)) e_20 (by decide) (by decide)) e_23 (by decide) (by decide)) e_26 (by decide) (by decide)) hP hD hS (lv_sub hl [0, 2, 3, 4, 5] rfl)
      exact L_26 _ K10 0 _ _ ls rfl (rg_w (rg_c (v := 0) (lo := 0) (hi := 0) (by decide)) (by decide)) hT hF fr_rf hP hD hS (lv_sub hl [0, 1, 2, 3, 4] rfl)
  exact L_10 _ C_1 0 _ _ ls rfl (rg_w (rg_c (v := 0) (lo := 0) (hi := 0) (by decide)) (by decide)) hT hF fr_rf hP hD hS (lv_sub hl [0, 1, 2, 3] rfl)
