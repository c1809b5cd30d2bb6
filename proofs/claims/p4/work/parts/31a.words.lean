theorem bg_dX7_ask_0 : bysAt cX7_ask 0 [27, 133, 9, 20, 0, 134, 184, 0, 62, 153, 0, 34, 28, 133, 9, 27, 154, 0, 9, 20, 0, 138, 167, 0, 15, 27] := bysAt_of (by decide +kernel)
theorem dX7_ask_0 : decode cX7_ask 0 = .ok (.iload_n 1, 1) := o_27 (bg_dX7_ask_0 0 27 rfl)
theorem dX7_ask_1 : decode cX7_ask 1 = .ok (.i2l, 1) := o_133 (bg_dX7_ask_0 1 133 rfl)
theorem dX7_ask_2 : decode cX7_ask 2 = .ok (.lconst 0, 1) := o_9 (bg_dX7_ask_0 2 9 rfl)
theorem dX7_ask_3 : decode cX7_ask 3 = .ok (.ldc2_w 134, 3) := o_20 (bg_dX7_ask_0 3 20 rfl) (bg_dX7_ask_0 4 0 rfl) (bg_dX7_ask_0 5 134 rfl)
theorem dX7_ask_6 : decode cX7_ask 6 = .ok (.invokestatic 62, 3) := o_184 (bg_dX7_ask_0 6 184 rfl) (bg_dX7_ask_0 7 0 rfl) (bg_dX7_ask_0 8 62 rfl)
theorem dX7_ask_9 : decode cX7_ask 9 = .ok (.ifCond .eq 34, 3) := o_153 (bg_dX7_ask_0 9 153 rfl) (bg_dX7_ask_0 10 0 rfl) (bg_dX7_ask_0 11 34 rfl) (by decide +kernel)
theorem dX7_ask_12 : decode cX7_ask 12 = .ok (.iload_n 2, 1) := o_28 (bg_dX7_ask_0 12 28 rfl)
theorem dX7_ask_13 : decode cX7_ask 13 = .ok (.i2l, 1) := o_133 (bg_dX7_ask_0 13 133 rfl)
theorem dX7_ask_14 : decode cX7_ask 14 = .ok (.lconst 0, 1) := o_9 (bg_dX7_ask_0 14 9 rfl)
theorem dX7_ask_15 : decode cX7_ask 15 = .ok (.iload_n 1, 1) := o_27 (bg_dX7_ask_0 15 27 rfl)
theorem dX7_ask_16 : decode cX7_ask 16 = .ok (.ifCond .ne 9, 3) := o_154 (bg_dX7_ask_0 16 154 rfl) (bg_dX7_ask_0 17 0 rfl) (bg_dX7_ask_0 18 9 rfl) (by decide +kernel)
theorem dX7_ask_19 : decode cX7_ask 19 = .ok (.ldc2_w 138, 3) := o_20 (bg_dX7_ask_0 19 20 rfl) (bg_dX7_ask_0 20 0 rfl) (bg_dX7_ask_0 21 138 rfl)
theorem dX7_ask_22 : decode cX7_ask 22 = .ok (.goto 15, 3) := o_167 (bg_dX7_ask_0 22 167 rfl) (bg_dX7_ask_0 23 0 rfl) (bg_dX7_ask_0 24 15 rfl) (by decide +kernel)
theorem dX7_ask_25 : decode cX7_ask 25 = .ok (.iload_n 1, 1) := o_27 (bg_dX7_ask_0 25 27 rfl)
theorem bg_dX7_ask_26 : bysAt cX7_ask 26 [4, 160, 0, 9, 20, 0, 120, 167, 0, 4, 10, 184, 0, 62, 154, 0, 10, 42, 16, 254, 182, 0, 89, 172, 42, 180, 0, 51, 27] := bysAt_of (by decide +kernel)
theorem dX7_ask_26 : decode cX7_ask 26 = .ok (.iconst 1, 1) := o_4 (bg_dX7_ask_26 0 4 rfl)
theorem dX7_ask_27 : decode cX7_ask 27 = .ok (.if_icmp .ne 9, 3) := o_160 (bg_dX7_ask_26 1 160 rfl) (bg_dX7_ask_26 2 0 rfl) (bg_dX7_ask_26 3 9 rfl) (by decide +kernel)
theorem dX7_ask_30 : decode cX7_ask 30 = .ok (.ldc2_w 120, 3) := o_20 (bg_dX7_ask_26 4 20 rfl) (bg_dX7_ask_26 5 0 rfl) (bg_dX7_ask_26 6 120 rfl)
theorem dX7_ask_33 : decode cX7_ask 33 = .ok (.goto 4, 3) := o_167 (bg_dX7_ask_26 7 167 rfl) (bg_dX7_ask_26 8 0 rfl) (bg_dX7_ask_26 9 4 rfl) (by decide +kernel)
theorem dX7_ask_36 : decode cX7_ask 36 = .ok (.lconst 1, 1) := o_10 (bg_dX7_ask_26 10 10 rfl)
theorem dX7_ask_37 : decode cX7_ask 37 = .ok (.invokestatic 62, 3) := o_184 (bg_dX7_ask_26 11 184 rfl) (bg_dX7_ask_26 12 0 rfl) (bg_dX7_ask_26 13 62 rfl)
theorem dX7_ask_40 : decode cX7_ask 40 = .ok (.ifCond .ne 10, 3) := o_154 (bg_dX7_ask_26 14 154 rfl) (bg_dX7_ask_26 15 0 rfl) (bg_dX7_ask_26 16 10 rfl) (by decide +kernel)
theorem dX7_ask_43 : decode cX7_ask 43 = .ok (.aload_n 0, 1) := o_42 (bg_dX7_ask_26 17 42 rfl)
theorem dX7_ask_44 : decode cX7_ask 44 = .ok (.bipush (-2), 2) := o_16 (bg_dX7_ask_26 18 16 rfl) (bg_dX7_ask_26 19 254 rfl) (by decide +kernel)
theorem dX7_ask_46 : decode cX7_ask 46 = .ok (.invokevirtual 89, 3) := o_182 (bg_dX7_ask_26 20 182 rfl) (bg_dX7_ask_26 21 0 rfl) (bg_dX7_ask_26 22 89 rfl)
theorem dX7_ask_49 : decode cX7_ask 49 = .ok (.ireturn, 1) := o_172 (bg_dX7_ask_26 23 172 rfl)
theorem dX7_ask_50 : decode cX7_ask 50 = .ok (.aload_n 0, 1) := o_42 (bg_dX7_ask_26 24 42 rfl)
theorem dX7_ask_51 : decode cX7_ask 51 = .ok (.getfield 51, 3) := o_180 (bg_dX7_ask_26 25 180 rfl) (bg_dX7_ask_26 26 0 rfl) (bg_dX7_ask_26 27 51 rfl)
theorem dX7_ask_54 : decode cX7_ask 54 = .ok (.iload_n 1, 1) := o_27 (bg_dX7_ask_26 28 27 rfl)
theorem bg_dX7_ask_55 : bysAt cX7_ask 55 [46, 62, 42, 180, 0, 51, 27, 28, 79, 29, 172] := bysAt_of (by decide +kernel)
theorem dX7_ask_55 : decode cX7_ask 55 = .ok (.iaload, 1) := o_46 (bg_dX7_ask_55 0 46 rfl)
theorem dX7_ask_56 : decode cX7_ask 56 = .ok (.istore_n 3, 1) := o_62 (bg_dX7_ask_55 1 62 rfl)
theorem dX7_ask_57 : decode cX7_ask 57 = .ok (.aload_n 0, 1) := o_42 (bg_dX7_ask_55 2 42 rfl)
theorem dX7_ask_58 : decode cX7_ask 58 = .ok (.getfield 51, 3) := o_180 (bg_dX7_ask_55 3 180 rfl) (bg_dX7_ask_55 4 0 rfl) (bg_dX7_ask_55 5 51 rfl)
theorem dX7_ask_61 : decode cX7_ask 61 = .ok (.iload_n 1, 1) := o_27 (bg_dX7_ask_55 6 27 rfl)
theorem dX7_ask_62 : decode cX7_ask 62 = .ok (.iload_n 2, 1) := o_28 (bg_dX7_ask_55 7 28 rfl)
theorem dX7_ask_63 : decode cX7_ask 63 = .ok (.iastore, 1) := o_79 (bg_dX7_ask_55 8 79 rfl)
theorem dX7_ask_64 : decode cX7_ask 64 = .ok (.iload_n 3, 1) := o_29 (bg_dX7_ask_55 9 29 rfl)
theorem dX7_ask_65 : decode cX7_ask 65 = .ok (.ireturn, 1) := o_172 (bg_dX7_ask_55 10 172 rfl)
theorem bg_dX7_axle_0 : bysAt cX7_axle 0 [42, 27, 28, 182, 1, 4, 153, 0, 12, 42, 27, 28, 182, 1, 7, 167, 0, 9, 42, 16, 254, 182, 0, 89, 172] := bysAt_of (by decide +kernel)
theorem dX7_axle_0 : decode cX7_axle 0 = .ok (.aload_n 0, 1) := o_42 (bg_dX7_axle_0 0 42 rfl)
theorem dX7_axle_1 : decode cX7_axle 1 = .ok (.iload_n 1, 1) := o_27 (bg_dX7_axle_0 1 27 rfl)
theorem dX7_axle_2 : decode cX7_axle 2 = .ok (.iload_n 2, 1) := o_28 (bg_dX7_axle_0 2 28 rfl)
theorem dX7_axle_3 : decode cX7_axle 3 = .ok (.invokevirtual 260, 3) := o_182 (bg_dX7_axle_0 3 182 rfl) (bg_dX7_axle_0 4 1 rfl) (bg_dX7_axle_0 5 4 rfl)
theorem dX7_axle_6 : decode cX7_axle 6 = .ok (.ifCond .eq 12, 3) := o_153 (bg_dX7_axle_0 6 153 rfl) (bg_dX7_axle_0 7 0 rfl) (bg_dX7_axle_0 8 12 rfl) (by decide +kernel)
theorem dX7_axle_9 : decode cX7_axle 9 = .ok (.aload_n 0, 1) := o_42 (bg_dX7_axle_0 9 42 rfl)
theorem dX7_axle_10 : decode cX7_axle 10 = .ok (.iload_n 1, 1) := o_27 (bg_dX7_axle_0 10 27 rfl)
theorem dX7_axle_11 : decode cX7_axle 11 = .ok (.iload_n 2, 1) := o_28 (bg_dX7_axle_0 11 28 rfl)
theorem dX7_axle_12 : decode cX7_axle 12 = .ok (.invokevirtual 263, 3) := o_182 (bg_dX7_axle_0 12 182 rfl) (bg_dX7_axle_0 13 1 rfl) (bg_dX7_axle_0 14 7 rfl)
theorem dX7_axle_15 : decode cX7_axle 15 = .ok (.goto 9, 3) := o_167 (bg_dX7_axle_0 15 167 rfl) (bg_dX7_axle_0 16 0 rfl) (bg_dX7_axle_0 17 9 rfl) (by decide +kernel)
theorem dX7_axle_18 : decode cX7_axle 18 = .ok (.aload_n 0, 1) := o_42 (bg_dX7_axle_0 18 42 rfl)
theorem dX7_axle_19 : decode cX7_axle 19 = .ok (.bipush (-2), 2) := o_16 (bg_dX7_axle_0 19 16 rfl) (bg_dX7_axle_0 20 254 rfl) (by decide +kernel)
theorem dX7_axle_21 : decode cX7_axle 21 = .ok (.invokevirtual 89, 3) := o_182 (bg_dX7_axle_0 21 182 rfl) (bg_dX7_axle_0 22 0 rfl) (bg_dX7_axle_0 23 89 rfl)
theorem dX7_axle_24 : decode cX7_axle 24 = .ok (.ireturn, 1) := o_172 (bg_dX7_axle_0 24 172 rfl)
theorem bg_dX7_bears_0 : bysAt cX7_bears 0 [42, 27, 182, 0, 97, 154, 0, 10, 42, 16, 254, 182, 0, 89, 172, 28, 153, 0, 29, 42, 27, 42, 180, 0, 42] := bysAt_of (by decide +kernel)
theorem dX7_bears_0 : decode cX7_bears 0 = .ok (.aload_n 0, 1) := o_42 (bg_dX7_bears_0 0 42 rfl)
theorem dX7_bears_1 : decode cX7_bears 1 = .ok (.iload_n 1, 1) := o_27 (bg_dX7_bears_0 1 27 rfl)
theorem dX7_bears_2 : decode cX7_bears 2 = .ok (.invokevirtual 97, 3) := o_182 (bg_dX7_bears_0 2 182 rfl) (bg_dX7_bears_0 3 0 rfl) (bg_dX7_bears_0 4 97 rfl)
theorem dX7_bears_5 : decode cX7_bears 5 = .ok (.ifCond .ne 10, 3) := o_154 (bg_dX7_bears_0 5 154 rfl) (bg_dX7_bears_0 6 0 rfl) (bg_dX7_bears_0 7 10 rfl) (by decide +kernel)
theorem dX7_bears_8 : decode cX7_bears 8 = .ok (.aload_n 0, 1) := o_42 (bg_dX7_bears_0 8 42 rfl)
theorem dX7_bears_9 : decode cX7_bears 9 = .ok (.bipush (-2), 2) := o_16 (bg_dX7_bears_0 9 16 rfl) (bg_dX7_bears_0 10 254 rfl) (by decide +kernel)
theorem dX7_bears_11 : decode cX7_bears 11 = .ok (.invokevirtual 89, 3) := o_182 (bg_dX7_bears_0 11 182 rfl) (bg_dX7_bears_0 12 0 rfl) (bg_dX7_bears_0 13 89 rfl)
theorem dX7_bears_14 : decode cX7_bears 14 = .ok (.ireturn, 1) := o_172 (bg_dX7_bears_0 14 172 rfl)
theorem dX7_bears_15 : decode cX7_bears 15 = .ok (.iload_n 2, 1) := o_28 (bg_dX7_bears_0 15 28 rfl)
theorem dX7_bears_16 : decode cX7_bears 16 = .ok (.ifCond .eq 29, 3) := o_153 (bg_dX7_bears_0 16 153 rfl) (bg_dX7_bears_0 17 0 rfl) (bg_dX7_bears_0 18 29 rfl) (by decide +kernel)
theorem dX7_bears_19 : decode cX7_bears 19 = .ok (.aload_n 0, 1) := o_42 (bg_dX7_bears_0 19 42 rfl)
theorem dX7_bears_20 : decode cX7_bears 20 = .ok (.iload_n 1, 1) := o_27 (bg_dX7_bears_0 20 27 rfl)
theorem dX7_bears_21 : decode cX7_bears 21 = .ok (.aload_n 0, 1) := o_42 (bg_dX7_bears_0 21 42 rfl)
theorem dX7_bears_22 : decode cX7_bears 22 = .ok (.getfield 42, 3) := o_180 (bg_dX7_bears_0 22 180 rfl) (bg_dX7_bears_0 23 0 rfl) (bg_dX7_bears_0 24 42 rfl)
theorem bg_dX7_bears_25 : bysAt cX7_bears 25 [27, 50, 16, 7, 46, 4, 160, 0, 7, 4, 167, 0, 4, 3, 182, 0, 109, 167, 0, 8, 42, 27, 182, 0, 106] := bysAt_of (by decide +kernel)
theorem dX7_bears_25 : decode cX7_bears 25 = .ok (.iload_n 1, 1) := o_27 (bg_dX7_bears_25 0 27 rfl)
theorem dX7_bears_26 : decode cX7_bears 26 = .ok (.aaload, 1) := o_50 (bg_dX7_bears_25 1 50 rfl)
theorem dX7_bears_27 : decode cX7_bears 27 = .ok (.bipush 7, 2) := o_16 (bg_dX7_bears_25 2 16 rfl) (bg_dX7_bears_25 3 7 rfl) (by decide +kernel)
theorem dX7_bears_29 : decode cX7_bears 29 = .ok (.iaload, 1) := o_46 (bg_dX7_bears_25 4 46 rfl)
theorem dX7_bears_30 : decode cX7_bears 30 = .ok (.iconst 1, 1) := o_4 (bg_dX7_bears_25 5 4 rfl)
theorem dX7_bears_31 : decode cX7_bears 31 = .ok (.if_icmp .ne 7, 3) := o_160 (bg_dX7_bears_25 6 160 rfl) (bg_dX7_bears_25 7 0 rfl) (bg_dX7_bears_25 8 7 rfl) (by decide +kernel)
theorem dX7_bears_34 : decode cX7_bears 34 = .ok (.iconst 1, 1) := o_4 (bg_dX7_bears_25 9 4 rfl)
theorem dX7_bears_35 : decode cX7_bears 35 = .ok (.goto 4, 3) := o_167 (bg_dX7_bears_25 10 167 rfl) (bg_dX7_bears_25 11 0 rfl) (bg_dX7_bears_25 12 4 rfl) (by decide +kernel)
theorem dX7_bears_38 : decode cX7_bears 38 = .ok (.iconst 0, 1) := o_3 (bg_dX7_bears_25 13 3 rfl)
theorem dX7_bears_39 : decode cX7_bears 39 = .ok (.invokevirtual 109, 3) := o_182 (bg_dX7_bears_25 14 182 rfl) (bg_dX7_bears_25 15 0 rfl) (bg_dX7_bears_25 16 109 rfl)
theorem dX7_bears_42 : decode cX7_bears 42 = .ok (.goto 8, 3) := o_167 (bg_dX7_bears_25 17 167 rfl) (bg_dX7_bears_25 18 0 rfl) (bg_dX7_bears_25 19 8 rfl) (by decide +kernel)
theorem dX7_bears_45 : decode cX7_bears 45 = .ok (.aload_n 0, 1) := o_42 (bg_dX7_bears_25 20 42 rfl)
theorem dX7_bears_46 : decode cX7_bears 46 = .ok (.iload_n 1, 1) := o_27 (bg_dX7_bears_25 21 27 rfl)
theorem dX7_bears_47 : decode cX7_bears 47 = .ok (.invokevirtual 106, 3) := o_182 (bg_dX7_bears_25 22 182 rfl) (bg_dX7_bears_25 23 0 rfl) (bg_dX7_bears_25 24 106 rfl)
theorem bg_dX7_bears_50 : bysAt cX7_bears 50 [172] := bysAt_of (by decide +kernel)
theorem dX7_bears_50 : decode cX7_bears 50 = .ok (.ireturn, 1) := o_172 (bg_dX7_bears_50 0 172 rfl)
theorem bg_dX7_bridge_0 : bysAt cX7_bridge 0 [42, 27, 182, 0, 126, 153, 0, 53, 28, 133, 9, 20, 0, 100, 184, 0, 62, 153, 0, 41, 29, 133, 9, 20, 0, 116] := bysAt_of (by decide +kernel)
theorem dX7_bridge_0 : decode cX7_bridge 0 = .ok (.aload_n 0, 1) := o_42 (bg_dX7_bridge_0 0 42 rfl)
theorem dX7_bridge_1 : decode cX7_bridge 1 = .ok (.iload_n 1, 1) := o_27 (bg_dX7_bridge_0 1 27 rfl)
theorem dX7_bridge_2 : decode cX7_bridge 2 = .ok (.invokevirtual 126, 3) := o_182 (bg_dX7_bridge_0 2 182 rfl) (bg_dX7_bridge_0 3 0 rfl) (bg_dX7_bridge_0 4 126 rfl)
theorem dX7_bridge_5 : decode cX7_bridge 5 = .ok (.ifCond .eq 53, 3) := o_153 (bg_dX7_bridge_0 5 153 rfl) (bg_dX7_bridge_0 6 0 rfl) (bg_dX7_bridge_0 7 53 rfl) (by decide +kernel)
theorem dX7_bridge_8 : decode cX7_bridge 8 = .ok (.iload_n 2, 1) := o_28 (bg_dX7_bridge_0 8 28 rfl)
theorem dX7_bridge_9 : decode cX7_bridge 9 = .ok (.i2l, 1) := o_133 (bg_dX7_bridge_0 9 133 rfl)
theorem dX7_bridge_10 : decode cX7_bridge 10 = .ok (.lconst 0, 1) := o_9 (bg_dX7_bridge_0 10 9 rfl)
theorem dX7_bridge_11 : decode cX7_bridge 11 = .ok (.ldc2_w 100, 3) := o_20 (bg_dX7_bridge_0 11 20 rfl) (bg_dX7_bridge_0 12 0 rfl) (bg_dX7_bridge_0 13 100 rfl)
theorem dX7_bridge_14 : decode cX7_bridge 14 = .ok (.invokestatic 62, 3) := o_184 (bg_dX7_bridge_0 14 184 rfl) (bg_dX7_bridge_0 15 0 rfl) (bg_dX7_bridge_0 16 62 rfl)
theorem dX7_bridge_17 : decode cX7_bridge 17 = .ok (.ifCond .eq 41, 3) := o_153 (bg_dX7_bridge_0 17 153 rfl) (bg_dX7_bridge_0 18 0 rfl) (bg_dX7_bridge_0 19 41 rfl) (by decide +kernel)
theorem dX7_bridge_20 : decode cX7_bridge 20 = .ok (.iload_n 3, 1) := o_29 (bg_dX7_bridge_0 20 29 rfl)
theorem dX7_bridge_21 : decode cX7_bridge 21 = .ok (.i2l, 1) := o_133 (bg_dX7_bridge_0 21 133 rfl)
theorem dX7_bridge_22 : decode cX7_bridge 22 = .ok (.lconst 0, 1) := o_9 (bg_dX7_bridge_0 22 9 rfl)
theorem dX7_bridge_23 : decode cX7_bridge 23 = .ok (.ldc2_w 116, 3) := o_20 (bg_dX7_bridge_0 23 20 rfl) (bg_dX7_bridge_0 24 0 rfl) (bg_dX7_bridge_0 25 116 rfl)
theorem bg_dX7_bridge_26 : bysAt cX7_bridge 26 [184, 0, 62, 153, 0, 29, 21, 4, 133, 10, 20, 0, 120, 184, 0, 62, 153, 0, 16, 21, 5, 133, 10, 20, 0, 129, 184, 0, 62, 154, 0, 10] := bysAt_of (by decide +kernel)
theorem dX7_bridge_26 : decode cX7_bridge 26 = .ok (.invokestatic 62, 3) := o_184 (bg_dX7_bridge_26 0 184 rfl) (bg_dX7_bridge_26 1 0 rfl) (bg_dX7_bridge_26 2 62 rfl)
theorem dX7_bridge_29 : decode cX7_bridge 29 = .ok (.ifCond .eq 29, 3) := o_153 (bg_dX7_bridge_26 3 153 rfl) (bg_dX7_bridge_26 4 0 rfl) (bg_dX7_bridge_26 5 29 rfl) (by decide +kernel)
theorem dX7_bridge_32 : decode cX7_bridge 32 = .ok (.iload 4, 2) := o_21 (bg_dX7_bridge_26 6 21 rfl) (bg_dX7_bridge_26 7 4 rfl)
theorem dX7_bridge_34 : decode cX7_bridge 34 = .ok (.i2l, 1) := o_133 (bg_dX7_bridge_26 8 133 rfl)
theorem dX7_bridge_35 : decode cX7_bridge 35 = .ok (.lconst 1, 1) := o_10 (bg_dX7_bridge_26 9 10 rfl)
theorem dX7_bridge_36 : decode cX7_bridge 36 = .ok (.ldc2_w 120, 3) := o_20 (bg_dX7_bridge_26 10 20 rfl) (bg_dX7_bridge_26 11 0 rfl) (bg_dX7_bridge_26 12 120 rfl)
theorem dX7_bridge_39 : decode cX7_bridge 39 = .ok (.invokestatic 62, 3) := o_184 (bg_dX7_bridge_26 13 184 rfl) (bg_dX7_bridge_26 14 0 rfl) (bg_dX7_bridge_26 15 62 rfl)
theorem dX7_bridge_42 : decode cX7_bridge 42 = .ok (.ifCond .eq 16, 3) := o_153 (bg_dX7_bridge_26 16 153 rfl) (bg_dX7_bridge_26 17 0 rfl) (bg_dX7_bridge_26 18 16 rfl) (by decide +kernel)
theorem dX7_bridge_45 : decode cX7_bridge 45 = .ok (.iload 5, 2) := o_21 (bg_dX7_bridge_26 19 21 rfl) (bg_dX7_bridge_26 20 5 rfl)
theorem dX7_bridge_47 : decode cX7_bridge 47 = .ok (.i2l, 1) := o_133 (bg_dX7_bridge_26 21 133 rfl)
theorem dX7_bridge_48 : decode cX7_bridge 48 = .ok (.lconst 1, 1) := o_10 (bg_dX7_bridge_26 22 10 rfl)
theorem dX7_bridge_49 : decode cX7_bridge 49 = .ok (.ldc2_w 129, 3) := o_20 (bg_dX7_bridge_26 23 20 rfl) (bg_dX7_bridge_26 24 0 rfl) (bg_dX7_bridge_26 25 129 rfl)
theorem dX7_bridge_52 : decode cX7_bridge 52 = .ok (.invokestatic 62, 3) := o_184 (bg_dX7_bridge_26 26 184 rfl) (bg_dX7_bridge_26 27 0 rfl) (bg_dX7_bridge_26 28 62 rfl)
theorem dX7_bridge_55 : decode cX7_bridge 55 = .ok (.ifCond .ne 10, 3) := o_154 (bg_dX7_bridge_26 29 154 rfl) (bg_dX7_bridge_26 30 0 rfl) (bg_dX7_bridge_26 31 10 rfl) (by decide +kernel)
theorem bg_dX7_bridge_58 : bysAt cX7_bridge 58 [42, 16, 254, 182, 0, 89, 172, 42, 180, 0, 70, 16, 16, 160, 0, 10, 42, 16, 250, 182, 0, 89, 172, 42, 182, 0, 131] := bysAt_of (by decide +kernel)
theorem dX7_bridge_58 : decode cX7_bridge 58 = .ok (.aload_n 0, 1) := o_42 (bg_dX7_bridge_58 0 42 rfl)
theorem dX7_bridge_59 : decode cX7_bridge 59 = .ok (.bipush (-2), 2) := o_16 (bg_dX7_bridge_58 1 16 rfl) (bg_dX7_bridge_58 2 254 rfl) (by decide +kernel)
theorem dX7_bridge_61 : decode cX7_bridge 61 = .ok (.invokevirtual 89, 3) := o_182 (bg_dX7_bridge_58 3 182 rfl) (bg_dX7_bridge_58 4 0 rfl) (bg_dX7_bridge_58 5 89 rfl)
theorem dX7_bridge_64 : decode cX7_bridge 64 = .ok (.ireturn, 1) := o_172 (bg_dX7_bridge_58 6 172 rfl)
theorem dX7_bridge_65 : decode cX7_bridge 65 = .ok (.aload_n 0, 1) := o_42 (bg_dX7_bridge_58 7 42 rfl)
theorem dX7_bridge_66 : decode cX7_bridge 66 = .ok (.getfield 70, 3) := o_180 (bg_dX7_bridge_58 8 180 rfl) (bg_dX7_bridge_58 9 0 rfl) (bg_dX7_bridge_58 10 70 rfl)
theorem dX7_bridge_69 : decode cX7_bridge 69 = .ok (.bipush 16, 2) := o_16 (bg_dX7_bridge_58 11 16 rfl) (bg_dX7_bridge_58 12 16 rfl) (by decide +kernel)
theorem dX7_bridge_71 : decode cX7_bridge 71 = .ok (.if_icmp .ne 10, 3) := o_160 (bg_dX7_bridge_58 13 160 rfl) (bg_dX7_bridge_58 14 0 rfl) (bg_dX7_bridge_58 15 10 rfl) (by decide +kernel)
theorem dX7_bridge_74 : decode cX7_bridge 74 = .ok (.aload_n 0, 1) := o_42 (bg_dX7_bridge_58 16 42 rfl)
theorem dX7_bridge_75 : decode cX7_bridge 75 = .ok (.bipush (-6), 2) := o_16 (bg_dX7_bridge_58 17 16 rfl) (bg_dX7_bridge_58 18 250 rfl) (by decide +kernel)
theorem dX7_bridge_77 : decode cX7_bridge 77 = .ok (.invokevirtual 89, 3) := o_182 (bg_dX7_bridge_58 19 182 rfl) (bg_dX7_bridge_58 20 0 rfl) (bg_dX7_bridge_58 21 89 rfl)
theorem dX7_bridge_80 : decode cX7_bridge 80 = .ok (.ireturn, 1) := o_172 (bg_dX7_bridge_58 22 172 rfl)
theorem dX7_bridge_81 : decode cX7_bridge 81 = .ok (.aload_n 0, 1) := o_42 (bg_dX7_bridge_58 23 42 rfl)
theorem dX7_bridge_82 : decode cX7_bridge 82 = .ok (.invokevirtual 131, 3) := o_182 (bg_dX7_bridge_58 24 182 rfl) (bg_dX7_bridge_58 25 0 rfl) (bg_dX7_bridge_58 26 131 rfl)
theorem bg_dX7_bridge_85 : bysAt cX7_bridge 85 [42, 180, 0, 42, 42, 180, 0, 70, 50, 3, 27, 79, 42, 180, 0, 42, 42, 180, 0, 70, 50, 4] := bysAt_of (by decide +kernel)
theorem dX7_bridge_85 : decode cX7_bridge 85 = .ok (.aload_n 0, 1) := o_42 (bg_dX7_bridge_85 0 42 rfl)
theorem dX7_bridge_86 : decode cX7_bridge 86 = .ok (.getfield 42, 3) := o_180 (bg_dX7_bridge_85 1 180 rfl) (bg_dX7_bridge_85 2 0 rfl) (bg_dX7_bridge_85 3 42 rfl)
theorem dX7_bridge_89 : decode cX7_bridge 89 = .ok (.aload_n 0, 1) := o_42 (bg_dX7_bridge_85 4 42 rfl)
theorem dX7_bridge_90 : decode cX7_bridge 90 = .ok (.getfield 70, 3) := o_180 (bg_dX7_bridge_85 5 180 rfl) (bg_dX7_bridge_85 6 0 rfl) (bg_dX7_bridge_85 7 70 rfl)
theorem dX7_bridge_93 : decode cX7_bridge 93 = .ok (.aaload, 1) := o_50 (bg_dX7_bridge_85 8 50 rfl)
theorem dX7_bridge_94 : decode cX7_bridge 94 = .ok (.iconst 0, 1) := o_3 (bg_dX7_bridge_85 9 3 rfl)
theorem dX7_bridge_95 : decode cX7_bridge 95 = .ok (.iload_n 1, 1) := o_27 (bg_dX7_bridge_85 10 27 rfl)
theorem dX7_bridge_96 : decode cX7_bridge 96 = .ok (.iastore, 1) := o_79 (bg_dX7_bridge_85 11 79 rfl)
theorem dX7_bridge_97 : decode cX7_bridge 97 = .ok (.aload_n 0, 1) := o_42 (bg_dX7_bridge_85 12 42 rfl)
theorem dX7_bridge_98 : decode cX7_bridge 98 = .ok (.getfield 42, 3) := o_180 (bg_dX7_bridge_85 13 180 rfl) (bg_dX7_bridge_85 14 0 rfl) (bg_dX7_bridge_85 15 42 rfl)
theorem dX7_bridge_101 : decode cX7_bridge 101 = .ok (.aload_n 0, 1) := o_42 (bg_dX7_bridge_85 16 42 rfl)
theorem dX7_bridge_102 : decode cX7_bridge 102 = .ok (.getfield 70, 3) := o_180 (bg_dX7_bridge_85 17 180 rfl) (bg_dX7_bridge_85 18 0 rfl) (bg_dX7_bridge_85 19 70 rfl)
theorem dX7_bridge_105 : decode cX7_bridge 105 = .ok (.aaload, 1) := o_50 (bg_dX7_bridge_85 20 50 rfl)
theorem dX7_bridge_106 : decode cX7_bridge 106 = .ok (.iconst 1, 1) := o_4 (bg_dX7_bridge_85 21 4 rfl)
theorem bg_dX7_bridge_107 : bysAt cX7_bridge 107 [28, 79, 42, 180, 0, 42, 42, 180, 0, 70, 50, 5, 29, 79, 42, 180, 0, 42, 42, 180, 0, 70] := bysAt_of (by decide +kernel)
theorem dX7_bridge_107 : decode cX7_bridge 107 = .ok (.iload_n 2, 1) := o_28 (bg_dX7_bridge_107 0 28 rfl)
theorem dX7_bridge_108 : decode cX7_bridge 108 = .ok (.iastore, 1) := o_79 (bg_dX7_bridge_107 1 79 rfl)
theorem dX7_bridge_109 : decode cX7_bridge 109 = .ok (.aload_n 0, 1) := o_42 (bg_dX7_bridge_107 2 42 rfl)
theorem dX7_bridge_110 : decode cX7_bridge 110 = .ok (.getfield 42, 3) := o_180 (bg_dX7_bridge_107 3 180 rfl) (bg_dX7_bridge_107 4 0 rfl) (bg_dX7_bridge_107 5 42 rfl)
theorem dX7_bridge_113 : decode cX7_bridge 113 = .ok (.aload_n 0, 1) := o_42 (bg_dX7_bridge_107 6 42 rfl)
theorem dX7_bridge_114 : decode cX7_bridge 114 = .ok (.getfield 70, 3) := o_180 (bg_dX7_bridge_107 7 180 rfl) (bg_dX7_bridge_107 8 0 rfl) (bg_dX7_bridge_107 9 70 rfl)
theorem dX7_bridge_117 : decode cX7_bridge 117 = .ok (.aaload, 1) := o_50 (bg_dX7_bridge_107 10 50 rfl)
theorem dX7_bridge_118 : decode cX7_bridge 118 = .ok (.iconst 2, 1) := o_5 (bg_dX7_bridge_107 11 5 rfl)
theorem dX7_bridge_119 : decode cX7_bridge 119 = .ok (.iload_n 3, 1) := o_29 (bg_dX7_bridge_107 12 29 rfl)
theorem dX7_bridge_120 : decode cX7_bridge 120 = .ok (.iastore, 1) := o_79 (bg_dX7_bridge_107 13 79 rfl)
theorem dX7_bridge_121 : decode cX7_bridge 121 = .ok (.aload_n 0, 1) := o_42 (bg_dX7_bridge_107 14 42 rfl)
theorem dX7_bridge_122 : decode cX7_bridge 122 = .ok (.getfield 42, 3) := o_180 (bg_dX7_bridge_107 15 180 rfl) (bg_dX7_bridge_107 16 0 rfl) (bg_dX7_bridge_107 17 42 rfl)
theorem dX7_bridge_125 : decode cX7_bridge 125 = .ok (.aload_n 0, 1) := o_42 (bg_dX7_bridge_107 18 42 rfl)
theorem dX7_bridge_126 : decode cX7_bridge 126 = .ok (.getfield 70, 3) := o_180 (bg_dX7_bridge_107 19 180 rfl) (bg_dX7_bridge_107 20 0 rfl) (bg_dX7_bridge_107 21 70 rfl)
theorem bg_dX7_bridge_129 : bysAt cX7_bridge 129 [50, 6, 21, 4, 79, 42, 180, 0, 42, 42, 180, 0, 70, 50, 7, 21, 5, 79, 42, 89] := bysAt_of (by decide +kernel)
theorem dX7_bridge_129 : decode cX7_bridge 129 = .ok (.aaload, 1) := o_50 (bg_dX7_bridge_129 0 50 rfl)
theorem dX7_bridge_130 : decode cX7_bridge 130 = .ok (.iconst 3, 1) := o_6 (bg_dX7_bridge_129 1 6 rfl)
theorem dX7_bridge_131 : decode cX7_bridge 131 = .ok (.iload 4, 2) := o_21 (bg_dX7_bridge_129 2 21 rfl) (bg_dX7_bridge_129 3 4 rfl)
theorem dX7_bridge_133 : decode cX7_bridge 133 = .ok (.iastore, 1) := o_79 (bg_dX7_bridge_129 4 79 rfl)
theorem dX7_bridge_134 : decode cX7_bridge 134 = .ok (.aload_n 0, 1) := o_42 (bg_dX7_bridge_129 5 42 rfl)
theorem dX7_bridge_135 : decode cX7_bridge 135 = .ok (.getfield 42, 3) := o_180 (bg_dX7_bridge_129 6 180 rfl) (bg_dX7_bridge_129 7 0 rfl) (bg_dX7_bridge_129 8 42 rfl)
theorem dX7_bridge_138 : decode cX7_bridge 138 = .ok (.aload_n 0, 1) := o_42 (bg_dX7_bridge_129 9 42 rfl)
theorem dX7_bridge_139 : decode cX7_bridge 139 = .ok (.getfield 70, 3) := o_180 (bg_dX7_bridge_129 10 180 rfl) (bg_dX7_bridge_129 11 0 rfl) (bg_dX7_bridge_129 12 70 rfl)
theorem dX7_bridge_142 : decode cX7_bridge 142 = .ok (.aaload, 1) := o_50 (bg_dX7_bridge_129 13 50 rfl)
theorem dX7_bridge_143 : decode cX7_bridge 143 = .ok (.iconst 4, 1) := o_7 (bg_dX7_bridge_129 14 7 rfl)
theorem dX7_bridge_144 : decode cX7_bridge 144 = .ok (.iload 5, 2) := o_21 (bg_dX7_bridge_129 15 21 rfl) (bg_dX7_bridge_129 16 5 rfl)
theorem dX7_bridge_146 : decode cX7_bridge 146 = .ok (.iastore, 1) := o_79 (bg_dX7_bridge_129 17 79 rfl)
theorem dX7_bridge_147 : decode cX7_bridge 147 = .ok (.aload_n 0, 1) := o_42 (bg_dX7_bridge_129 18 42 rfl)
theorem dX7_bridge_148 : decode cX7_bridge 148 = .ok (.dup, 1) := o_89 (bg_dX7_bridge_129 19 89 rfl)
theorem bg_dX7_bridge_149 : bysAt cX7_bridge 149 [180, 0, 70, 90, 4, 96, 181, 0, 70, 172] := bysAt_of (by decide +kernel)
theorem dX7_bridge_149 : decode cX7_bridge 149 = .ok (.getfield 70, 3) := o_180 (bg_dX7_bridge_149 0 180 rfl) (bg_dX7_bridge_149 1 0 rfl) (bg_dX7_bridge_149 2 70 rfl)
theorem dX7_bridge_152 : decode cX7_bridge 152 = .ok (.dup_x1, 1) := o_90 (bg_dX7_bridge_149 3 90 rfl)
theorem dX7_bridge_153 : decode cX7_bridge 153 = .ok (.iconst 1, 1) := o_4 (bg_dX7_bridge_149 4 4 rfl)
theorem dX7_bridge_154 : decode cX7_bridge 154 = .ok (.iadd, 1) := o_96 (bg_dX7_bridge_149 5 96 rfl)
theorem dX7_bridge_155 : decode cX7_bridge 155 = .ok (.putfield 70, 3) := o_181 (bg_dX7_bridge_149 6 181 rfl) (bg_dX7_bridge_149 7 0 rfl) (bg_dX7_bridge_149 8 70 rfl)
theorem dX7_bridge_158 : decode cX7_bridge 158 = .ok (.ireturn, 1) := o_172 (bg_dX7_bridge_149 9 172 rfl)
theorem bg_dX7_bridgeOf_0 : bysAt cX7_bridgeOf 0 [42, 27, 182, 0, 97, 153, 0, 26, 28, 133, 9, 20, 0, 118, 184, 0, 62, 153, 0, 14, 42, 180, 0, 42, 27, 50] := bysAt_of (by decide +kernel)
theorem dX7_bridgeOf_0 : decode cX7_bridgeOf 0 = .ok (.aload_n 0, 1) := o_42 (bg_dX7_bridgeOf_0 0 42 rfl)
theorem dX7_bridgeOf_1 : decode cX7_bridgeOf 1 = .ok (.iload_n 1, 1) := o_27 (bg_dX7_bridgeOf_0 1 27 rfl)
theorem dX7_bridgeOf_2 : decode cX7_bridgeOf 2 = .ok (.invokevirtual 97, 3) := o_182 (bg_dX7_bridgeOf_0 2 182 rfl) (bg_dX7_bridgeOf_0 3 0 rfl) (bg_dX7_bridgeOf_0 4 97 rfl)
theorem dX7_bridgeOf_5 : decode cX7_bridgeOf 5 = .ok (.ifCond .eq 26, 3) := o_153 (bg_dX7_bridgeOf_0 5 153 rfl) (bg_dX7_bridgeOf_0 6 0 rfl) (bg_dX7_bridgeOf_0 7 26 rfl) (by decide +kernel)
theorem dX7_bridgeOf_8 : decode cX7_bridgeOf 8 = .ok (.iload_n 2, 1) := o_28 (bg_dX7_bridgeOf_0 8 28 rfl)
theorem dX7_bridgeOf_9 : decode cX7_bridgeOf 9 = .ok (.i2l, 1) := o_133 (bg_dX7_bridgeOf_0 9 133 rfl)
theorem dX7_bridgeOf_10 : decode cX7_bridgeOf 10 = .ok (.lconst 0, 1) := o_9 (bg_dX7_bridgeOf_0 10 9 rfl)
theorem dX7_bridgeOf_11 : decode cX7_bridgeOf 11 = .ok (.ldc2_w 118, 3) := o_20 (bg_dX7_bridgeOf_0 11 20 rfl) (bg_dX7_bridgeOf_0 12 0 rfl) (bg_dX7_bridgeOf_0 13 118 rfl)
theorem dX7_bridgeOf_14 : decode cX7_bridgeOf 14 = .ok (.invokestatic 62, 3) := o_184 (bg_dX7_bridgeOf_0 14 184 rfl) (bg_dX7_bridgeOf_0 15 0 rfl) (bg_dX7_bridgeOf_0 16 62 rfl)
theorem dX7_bridgeOf_17 : decode cX7_bridgeOf 17 = .ok (.ifCond .eq 14, 3) := o_153 (bg_dX7_bridgeOf_0 17 153 rfl) (bg_dX7_bridgeOf_0 18 0 rfl) (bg_dX7_bridgeOf_0 19 14 rfl) (by decide +kernel)
theorem dX7_bridgeOf_20 : decode cX7_bridgeOf 20 = .ok (.aload_n 0, 1) := o_42 (bg_dX7_bridgeOf_0 20 42 rfl)
theorem dX7_bridgeOf_21 : decode cX7_bridgeOf 21 = .ok (.getfield 42, 3) := o_180 (bg_dX7_bridgeOf_0 21 180 rfl) (bg_dX7_bridgeOf_0 22 0 rfl) (bg_dX7_bridgeOf_0 23 42 rfl)
theorem dX7_bridgeOf_24 : decode cX7_bridgeOf 24 = .ok (.iload_n 1, 1) := o_27 (bg_dX7_bridgeOf_0 24 27 rfl)
theorem dX7_bridgeOf_25 : decode cX7_bridgeOf 25 = .ok (.aaload, 1) := o_50 (bg_dX7_bridgeOf_0 25 50 rfl)
theorem bg_dX7_bridgeOf_26 : bysAt cX7_bridgeOf 26 [28, 46, 167, 0, 9, 42, 16, 254, 182, 0, 89, 172] := bysAt_of (by decide +kernel)
theorem dX7_bridgeOf_26 : decode cX7_bridgeOf 26 = .ok (.iload_n 2, 1) := o_28 (bg_dX7_bridgeOf_26 0 28 rfl)
theorem dX7_bridgeOf_27 : decode cX7_bridgeOf 27 = .ok (.iaload, 1) := o_46 (bg_dX7_bridgeOf_26 1 46 rfl)
theorem dX7_bridgeOf_28 : decode cX7_bridgeOf 28 = .ok (.goto 9, 3) := o_167 (bg_dX7_bridgeOf_26 2 167 rfl) (bg_dX7_bridgeOf_26 3 0 rfl) (bg_dX7_bridgeOf_26 4 9 rfl) (by decide +kernel)
theorem dX7_bridgeOf_31 : decode cX7_bridgeOf 31 = .ok (.aload_n 0, 1) := o_42 (bg_dX7_bridgeOf_26 5 42 rfl)
theorem dX7_bridgeOf_32 : decode cX7_bridgeOf 32 = .ok (.bipush (-2), 2) := o_16 (bg_dX7_bridgeOf_26 6 16 rfl) (bg_dX7_bridgeOf_26 7 254 rfl) (by decide +kernel)
theorem dX7_bridgeOf_34 : decode cX7_bridgeOf 34 = .ok (.invokevirtual 89, 3) := o_182 (bg_dX7_bridgeOf_26 8 182 rfl) (bg_dX7_bridgeOf_26 9 0 rfl) (bg_dX7_bridgeOf_26 10 89 rfl)
theorem dX7_bridgeOf_37 : decode cX7_bridgeOf 37 = .ok (.ireturn, 1) := o_172 (bg_dX7_bridgeOf_26 11 172 rfl)
theorem bg_dX7_copy_0 : bysAt cX7_copy 0 [27, 133, 9, 20, 0, 83, 184, 0, 62, 153, 0, 15, 28, 133, 9, 20, 0, 83, 184, 0, 62, 154, 0, 10, 42, 16, 254] := bysAt_of (by decide +kernel)
theorem dX7_copy_0 : decode cX7_copy 0 = .ok (.iload_n 1, 1) := o_27 (bg_dX7_copy_0 0 27 rfl)
theorem dX7_copy_1 : decode cX7_copy 1 = .ok (.i2l, 1) := o_133 (bg_dX7_copy_0 1 133 rfl)
theorem dX7_copy_2 : decode cX7_copy 2 = .ok (.lconst 0, 1) := o_9 (bg_dX7_copy_0 2 9 rfl)
theorem dX7_copy_3 : decode cX7_copy 3 = .ok (.ldc2_w 83, 3) := o_20 (bg_dX7_copy_0 3 20 rfl) (bg_dX7_copy_0 4 0 rfl) (bg_dX7_copy_0 5 83 rfl)
theorem dX7_copy_6 : decode cX7_copy 6 = .ok (.invokestatic 62, 3) := o_184 (bg_dX7_copy_0 6 184 rfl) (bg_dX7_copy_0 7 0 rfl) (bg_dX7_copy_0 8 62 rfl)
theorem dX7_copy_9 : decode cX7_copy 9 = .ok (.ifCond .eq 15, 3) := o_153 (bg_dX7_copy_0 9 153 rfl) (bg_dX7_copy_0 10 0 rfl) (bg_dX7_copy_0 11 15 rfl) (by decide +kernel)
theorem dX7_copy_12 : decode cX7_copy 12 = .ok (.iload_n 2, 1) := o_28 (bg_dX7_copy_0 12 28 rfl)
theorem dX7_copy_13 : decode cX7_copy 13 = .ok (.i2l, 1) := o_133 (bg_dX7_copy_0 13 133 rfl)
theorem dX7_copy_14 : decode cX7_copy 14 = .ok (.lconst 0, 1) := o_9 (bg_dX7_copy_0 14 9 rfl)
theorem dX7_copy_15 : decode cX7_copy 15 = .ok (.ldc2_w 83, 3) := o_20 (bg_dX7_copy_0 15 20 rfl) (bg_dX7_copy_0 16 0 rfl) (bg_dX7_copy_0 17 83 rfl)
theorem dX7_copy_18 : decode cX7_copy 18 = .ok (.invokestatic 62, 3) := o_184 (bg_dX7_copy_0 18 184 rfl) (bg_dX7_copy_0 19 0 rfl) (bg_dX7_copy_0 20 62 rfl)
theorem dX7_copy_21 : decode cX7_copy 21 = .ok (.ifCond .ne 10, 3) := o_154 (bg_dX7_copy_0 21 154 rfl) (bg_dX7_copy_0 22 0 rfl) (bg_dX7_copy_0 23 10 rfl) (by decide +kernel)
theorem dX7_copy_24 : decode cX7_copy 24 = .ok (.aload_n 0, 1) := o_42 (bg_dX7_copy_0 24 42 rfl)
theorem dX7_copy_25 : decode cX7_copy 25 = .ok (.bipush (-2), 2) := o_16 (bg_dX7_copy_0 25 16 rfl) (bg_dX7_copy_0 26 254 rfl) (by decide +kernel)
theorem bg_dX7_copy_27 : bysAt cX7_copy 27 [182, 0, 89, 172, 42, 180, 0, 7, 27, 46, 5, 159, 0, 48, 42, 180, 0, 7, 28, 46, 5, 159, 0, 38] := bysAt_of (by decide +kernel)
theorem dX7_copy_27 : decode cX7_copy 27 = .ok (.invokevirtual 89, 3) := o_182 (bg_dX7_copy_27 0 182 rfl) (bg_dX7_copy_27 1 0 rfl) (bg_dX7_copy_27 2 89 rfl)
theorem dX7_copy_30 : decode cX7_copy 30 = .ok (.ireturn, 1) := o_172 (bg_dX7_copy_27 3 172 rfl)
theorem dX7_copy_31 : decode cX7_copy 31 = .ok (.aload_n 0, 1) := o_42 (bg_dX7_copy_27 4 42 rfl)
theorem dX7_copy_32 : decode cX7_copy 32 = .ok (.getfield 7, 3) := o_180 (bg_dX7_copy_27 5 180 rfl) (bg_dX7_copy_27 6 0 rfl) (bg_dX7_copy_27 7 7 rfl)
theorem dX7_copy_35 : decode cX7_copy 35 = .ok (.iload_n 1, 1) := o_27 (bg_dX7_copy_27 8 27 rfl)
theorem dX7_copy_36 : decode cX7_copy 36 = .ok (.iaload, 1) := o_46 (bg_dX7_copy_27 9 46 rfl)
theorem dX7_copy_37 : decode cX7_copy 37 = .ok (.iconst 2, 1) := o_5 (bg_dX7_copy_27 10 5 rfl)
theorem dX7_copy_38 : decode cX7_copy 38 = .ok (.if_icmp .eq 48, 3) := o_159 (bg_dX7_copy_27 11 159 rfl) (bg_dX7_copy_27 12 0 rfl) (bg_dX7_copy_27 13 48 rfl) (by decide +kernel)
theorem dX7_copy_41 : decode cX7_copy 41 = .ok (.aload_n 0, 1) := o_42 (bg_dX7_copy_27 14 42 rfl)
theorem dX7_copy_42 : decode cX7_copy 42 = .ok (.getfield 7, 3) := o_180 (bg_dX7_copy_27 15 180 rfl) (bg_dX7_copy_27 16 0 rfl) (bg_dX7_copy_27 17 7 rfl)
theorem dX7_copy_45 : decode cX7_copy 45 = .ok (.iload_n 2, 1) := o_28 (bg_dX7_copy_27 18 28 rfl)
theorem dX7_copy_46 : decode cX7_copy 46 = .ok (.iaload, 1) := o_46 (bg_dX7_copy_27 19 46 rfl)
theorem dX7_copy_47 : decode cX7_copy 47 = .ok (.iconst 2, 1) := o_5 (bg_dX7_copy_27 20 5 rfl)
theorem dX7_copy_48 : decode cX7_copy 48 = .ok (.if_icmp .eq 38, 3) := o_159 (bg_dX7_copy_27 21 159 rfl) (bg_dX7_copy_27 22 0 rfl) (bg_dX7_copy_27 23 38 rfl) (by decide +kernel)
theorem bg_dX7_copy_51 : bysAt cX7_copy 51 [42, 180, 0, 7, 27, 46, 4, 160, 0, 35, 42, 180, 0, 7, 28, 46, 4, 160, 0, 25, 42, 180, 0, 13] := bysAt_of (by decide +kernel)
theorem dX7_copy_51 : decode cX7_copy 51 = .ok (.aload_n 0, 1) := o_42 (bg_dX7_copy_51 0 42 rfl)
theorem dX7_copy_52 : decode cX7_copy 52 = .ok (.getfield 7, 3) := o_180 (bg_dX7_copy_51 1 180 rfl) (bg_dX7_copy_51 2 0 rfl) (bg_dX7_copy_51 3 7 rfl)
theorem dX7_copy_55 : decode cX7_copy 55 = .ok (.iload_n 1, 1) := o_27 (bg_dX7_copy_51 4 27 rfl)
theorem dX7_copy_56 : decode cX7_copy 56 = .ok (.iaload, 1) := o_46 (bg_dX7_copy_51 5 46 rfl)
theorem dX7_copy_57 : decode cX7_copy 57 = .ok (.iconst 1, 1) := o_4 (bg_dX7_copy_51 6 4 rfl)
theorem dX7_copy_58 : decode cX7_copy 58 = .ok (.if_icmp .ne 35, 3) := o_160 (bg_dX7_copy_51 7 160 rfl) (bg_dX7_copy_51 8 0 rfl) (bg_dX7_copy_51 9 35 rfl) (by decide +kernel)
theorem dX7_copy_61 : decode cX7_copy 61 = .ok (.aload_n 0, 1) := o_42 (bg_dX7_copy_51 10 42 rfl)
theorem dX7_copy_62 : decode cX7_copy 62 = .ok (.getfield 7, 3) := o_180 (bg_dX7_copy_51 11 180 rfl) (bg_dX7_copy_51 12 0 rfl) (bg_dX7_copy_51 13 7 rfl)
theorem dX7_copy_65 : decode cX7_copy 65 = .ok (.iload_n 2, 1) := o_28 (bg_dX7_copy_51 14 28 rfl)
theorem dX7_copy_66 : decode cX7_copy 66 = .ok (.iaload, 1) := o_46 (bg_dX7_copy_51 15 46 rfl)
theorem dX7_copy_67 : decode cX7_copy 67 = .ok (.iconst 1, 1) := o_4 (bg_dX7_copy_51 16 4 rfl)
theorem dX7_copy_68 : decode cX7_copy 68 = .ok (.if_icmp .ne 25, 3) := o_160 (bg_dX7_copy_51 17 160 rfl) (bg_dX7_copy_51 18 0 rfl) (bg_dX7_copy_51 19 25 rfl) (by decide +kernel)
theorem dX7_copy_71 : decode cX7_copy 71 = .ok (.aload_n 0, 1) := o_42 (bg_dX7_copy_51 20 42 rfl)
theorem dX7_copy_72 : decode cX7_copy 72 = .ok (.getfield 13, 3) := o_180 (bg_dX7_copy_51 21 180 rfl) (bg_dX7_copy_51 22 0 rfl) (bg_dX7_copy_51 23 13 rfl)
theorem bg_dX7_copy_75 : bysAt cX7_copy 75 [27, 46, 42, 180, 0, 13, 28, 46, 159, 0, 10, 42, 16, 253, 182, 0, 89, 172, 42, 180, 0, 7, 27] := bysAt_of (by decide +kernel)
theorem dX7_copy_75 : decode cX7_copy 75 = .ok (.iload_n 1, 1) := o_27 (bg_dX7_copy_75 0 27 rfl)
theorem dX7_copy_76 : decode cX7_copy 76 = .ok (.iaload, 1) := o_46 (bg_dX7_copy_75 1 46 rfl)
theorem dX7_copy_77 : decode cX7_copy 77 = .ok (.aload_n 0, 1) := o_42 (bg_dX7_copy_75 2 42 rfl)
theorem dX7_copy_78 : decode cX7_copy 78 = .ok (.getfield 13, 3) := o_180 (bg_dX7_copy_75 3 180 rfl) (bg_dX7_copy_75 4 0 rfl) (bg_dX7_copy_75 5 13 rfl)
theorem dX7_copy_81 : decode cX7_copy 81 = .ok (.iload_n 2, 1) := o_28 (bg_dX7_copy_75 6 28 rfl)
theorem dX7_copy_82 : decode cX7_copy 82 = .ok (.iaload, 1) := o_46 (bg_dX7_copy_75 7 46 rfl)
theorem dX7_copy_83 : decode cX7_copy 83 = .ok (.if_icmp .eq 10, 3) := o_159 (bg_dX7_copy_75 8 159 rfl) (bg_dX7_copy_75 9 0 rfl) (bg_dX7_copy_75 10 10 rfl) (by decide +kernel)
theorem dX7_copy_86 : decode cX7_copy 86 = .ok (.aload_n 0, 1) := o_42 (bg_dX7_copy_75 11 42 rfl)
theorem dX7_copy_87 : decode cX7_copy 87 = .ok (.bipush (-3), 2) := o_16 (bg_dX7_copy_75 12 16 rfl) (bg_dX7_copy_75 13 253 rfl) (by decide +kernel)
theorem dX7_copy_89 : decode cX7_copy 89 = .ok (.invokevirtual 89, 3) := o_182 (bg_dX7_copy_75 14 182 rfl) (bg_dX7_copy_75 15 0 rfl) (bg_dX7_copy_75 16 89 rfl)
theorem dX7_copy_92 : decode cX7_copy 92 = .ok (.ireturn, 1) := o_172 (bg_dX7_copy_75 17 172 rfl)
theorem dX7_copy_93 : decode cX7_copy 93 = .ok (.aload_n 0, 1) := o_42 (bg_dX7_copy_75 18 42 rfl)
theorem dX7_copy_94 : decode cX7_copy 94 = .ok (.getfield 7, 3) := o_180 (bg_dX7_copy_75 19 180 rfl) (bg_dX7_copy_75 20 0 rfl) (bg_dX7_copy_75 21 7 rfl)
theorem dX7_copy_97 : decode cX7_copy 97 = .ok (.iload_n 1, 1) := o_27 (bg_dX7_copy_75 22 27 rfl)
theorem bg_dX7_copy_98 : bysAt cX7_copy 98 [46, 153, 0, 12, 42, 180, 0, 7, 28, 46, 154, 0, 10, 42, 16, 252, 182, 0, 89, 172, 21, 5, 155, 0, 61, 29] := bysAt_of (by decide +kernel)
theorem dX7_copy_98 : decode cX7_copy 98 = .ok (.iaload, 1) := o_46 (bg_dX7_copy_98 0 46 rfl)
theorem dX7_copy_99 : decode cX7_copy 99 = .ok (.ifCond .eq 12, 3) := o_153 (bg_dX7_copy_98 1 153 rfl) (bg_dX7_copy_98 2 0 rfl) (bg_dX7_copy_98 3 12 rfl) (by decide +kernel)
theorem dX7_copy_102 : decode cX7_copy 102 = .ok (.aload_n 0, 1) := o_42 (bg_dX7_copy_98 4 42 rfl)
theorem dX7_copy_103 : decode cX7_copy 103 = .ok (.getfield 7, 3) := o_180 (bg_dX7_copy_98 5 180 rfl) (bg_dX7_copy_98 6 0 rfl) (bg_dX7_copy_98 7 7 rfl)
theorem dX7_copy_106 : decode cX7_copy 106 = .ok (.iload_n 2, 1) := o_28 (bg_dX7_copy_98 8 28 rfl)
theorem dX7_copy_107 : decode cX7_copy 107 = .ok (.iaload, 1) := o_46 (bg_dX7_copy_98 9 46 rfl)
theorem dX7_copy_108 : decode cX7_copy 108 = .ok (.ifCond .ne 10, 3) := o_154 (bg_dX7_copy_98 10 154 rfl) (bg_dX7_copy_98 11 0 rfl) (bg_dX7_copy_98 12 10 rfl) (by decide +kernel)
theorem dX7_copy_111 : decode cX7_copy 111 = .ok (.aload_n 0, 1) := o_42 (bg_dX7_copy_98 13 42 rfl)
theorem dX7_copy_112 : decode cX7_copy 112 = .ok (.bipush (-4), 2) := o_16 (bg_dX7_copy_98 14 16 rfl) (bg_dX7_copy_98 15 252 rfl) (by decide +kernel)
theorem dX7_copy_114 : decode cX7_copy 114 = .ok (.invokevirtual 89, 3) := o_182 (bg_dX7_copy_98 16 182 rfl) (bg_dX7_copy_98 17 0 rfl) (bg_dX7_copy_98 18 89 rfl)
theorem dX7_copy_117 : decode cX7_copy 117 = .ok (.ireturn, 1) := o_172 (bg_dX7_copy_98 19 172 rfl)
theorem dX7_copy_118 : decode cX7_copy 118 = .ok (.iload 5, 2) := o_21 (bg_dX7_copy_98 20 21 rfl) (bg_dX7_copy_98 21 5 rfl)
theorem dX7_copy_120 : decode cX7_copy 120 = .ok (.ifCond .lt 61, 3) := o_155 (bg_dX7_copy_98 22 155 rfl) (bg_dX7_copy_98 23 0 rfl) (bg_dX7_copy_98 24 61 rfl) (by decide +kernel)
theorem dX7_copy_123 : decode cX7_copy 123 = .ok (.iload_n 3, 1) := o_29 (bg_dX7_copy_98 25 29 rfl)
theorem bg_dX7_copy_124 : bysAt cX7_copy 124 [155, 0, 57, 21, 4, 155, 0, 52, 21, 5, 42, 180, 0, 16, 27, 46, 163, 0, 41, 21, 5, 42, 180, 0, 16, 28, 46] := bysAt_of (by decide +kernel)
theorem dX7_copy_124 : decode cX7_copy 124 = .ok (.ifCond .lt 57, 3) := o_155 (bg_dX7_copy_124 0 155 rfl) (bg_dX7_copy_124 1 0 rfl) (bg_dX7_copy_124 2 57 rfl) (by decide +kernel)
theorem dX7_copy_127 : decode cX7_copy 127 = .ok (.iload 4, 2) := o_21 (bg_dX7_copy_124 3 21 rfl) (bg_dX7_copy_124 4 4 rfl)
theorem dX7_copy_129 : decode cX7_copy 129 = .ok (.ifCond .lt 52, 3) := o_155 (bg_dX7_copy_124 5 155 rfl) (bg_dX7_copy_124 6 0 rfl) (bg_dX7_copy_124 7 52 rfl) (by decide +kernel)
theorem dX7_copy_132 : decode cX7_copy 132 = .ok (.iload 5, 2) := o_21 (bg_dX7_copy_124 8 21 rfl) (bg_dX7_copy_124 9 5 rfl)
theorem dX7_copy_134 : decode cX7_copy 134 = .ok (.aload_n 0, 1) := o_42 (bg_dX7_copy_124 10 42 rfl)
theorem dX7_copy_135 : decode cX7_copy 135 = .ok (.getfield 16, 3) := o_180 (bg_dX7_copy_124 11 180 rfl) (bg_dX7_copy_124 12 0 rfl) (bg_dX7_copy_124 13 16 rfl)
theorem dX7_copy_138 : decode cX7_copy 138 = .ok (.iload_n 1, 1) := o_27 (bg_dX7_copy_124 14 27 rfl)
theorem dX7_copy_139 : decode cX7_copy 139 = .ok (.iaload, 1) := o_46 (bg_dX7_copy_124 15 46 rfl)
theorem dX7_copy_140 : decode cX7_copy 140 = .ok (.if_icmp .gt 41, 3) := o_163 (bg_dX7_copy_124 16 163 rfl) (bg_dX7_copy_124 17 0 rfl) (bg_dX7_copy_124 18 41 rfl) (by decide +kernel)
theorem dX7_copy_143 : decode cX7_copy 143 = .ok (.iload 5, 2) := o_21 (bg_dX7_copy_124 19 21 rfl) (bg_dX7_copy_124 20 5 rfl)
theorem dX7_copy_145 : decode cX7_copy 145 = .ok (.aload_n 0, 1) := o_42 (bg_dX7_copy_124 21 42 rfl)
theorem dX7_copy_146 : decode cX7_copy 146 = .ok (.getfield 16, 3) := o_180 (bg_dX7_copy_124 22 180 rfl) (bg_dX7_copy_124 23 0 rfl) (bg_dX7_copy_124 24 16 rfl)
theorem dX7_copy_149 : decode cX7_copy 149 = .ok (.iload_n 2, 1) := o_28 (bg_dX7_copy_124 25 28 rfl)
theorem dX7_copy_150 : decode cX7_copy 150 = .ok (.iaload, 1) := o_46 (bg_dX7_copy_124 26 46 rfl)
theorem bg_dX7_copy_151 : bysAt cX7_copy 151 [163, 0, 30, 29, 42, 180, 0, 16, 27, 46, 21, 5, 100, 163, 0, 17, 21, 4, 42, 180, 0, 16, 28, 46] := bysAt_of (by decide +kernel)
theorem dX7_copy_151 : decode cX7_copy 151 = .ok (.if_icmp .gt 30, 3) := o_163 (bg_dX7_copy_151 0 163 rfl) (bg_dX7_copy_151 1 0 rfl) (bg_dX7_copy_151 2 30 rfl) (by decide +kernel)
theorem dX7_copy_154 : decode cX7_copy 154 = .ok (.iload_n 3, 1) := o_29 (bg_dX7_copy_151 3 29 rfl)
theorem dX7_copy_155 : decode cX7_copy 155 = .ok (.aload_n 0, 1) := o_42 (bg_dX7_copy_151 4 42 rfl)
theorem dX7_copy_156 : decode cX7_copy 156 = .ok (.getfield 16, 3) := o_180 (bg_dX7_copy_151 5 180 rfl) (bg_dX7_copy_151 6 0 rfl) (bg_dX7_copy_151 7 16 rfl)
theorem dX7_copy_159 : decode cX7_copy 159 = .ok (.iload_n 1, 1) := o_27 (bg_dX7_copy_151 8 27 rfl)
theorem dX7_copy_160 : decode cX7_copy 160 = .ok (.iaload, 1) := o_46 (bg_dX7_copy_151 9 46 rfl)
theorem dX7_copy_161 : decode cX7_copy 161 = .ok (.iload 5, 2) := o_21 (bg_dX7_copy_151 10 21 rfl) (bg_dX7_copy_151 11 5 rfl)
theorem dX7_copy_163 : decode cX7_copy 163 = .ok (.isub, 1) := o_100 (bg_dX7_copy_151 12 100 rfl)
theorem dX7_copy_164 : decode cX7_copy 164 = .ok (.if_icmp .gt 17, 3) := o_163 (bg_dX7_copy_151 13 163 rfl) (bg_dX7_copy_151 14 0 rfl) (bg_dX7_copy_151 15 17 rfl) (by decide +kernel)
theorem dX7_copy_167 : decode cX7_copy 167 = .ok (.iload 4, 2) := o_21 (bg_dX7_copy_151 16 21 rfl) (bg_dX7_copy_151 17 4 rfl)
theorem dX7_copy_169 : decode cX7_copy 169 = .ok (.aload_n 0, 1) := o_42 (bg_dX7_copy_151 18 42 rfl)
theorem dX7_copy_170 : decode cX7_copy 170 = .ok (.getfield 16, 3) := o_180 (bg_dX7_copy_151 19 180 rfl) (bg_dX7_copy_151 20 0 rfl) (bg_dX7_copy_151 21 16 rfl)
theorem dX7_copy_173 : decode cX7_copy 173 = .ok (.iload_n 2, 1) := o_28 (bg_dX7_copy_151 22 28 rfl)
theorem dX7_copy_174 : decode cX7_copy 174 = .ok (.iaload, 1) := o_46 (bg_dX7_copy_151 23 46 rfl)
theorem bg_dX7_copy_175 : bysAt cX7_copy 175 [21, 5, 100, 164, 0, 10, 42, 16, 254, 182, 0, 89, 172, 3, 54, 6, 21, 6, 21, 5, 162, 0, 27, 42, 180, 0, 24] := bysAt_of (by decide +kernel)
theorem dX7_copy_175 : decode cX7_copy 175 = .ok (.iload 5, 2) := o_21 (bg_dX7_copy_175 0 21 rfl) (bg_dX7_copy_175 1 5 rfl)
theorem dX7_copy_177 : decode cX7_copy 177 = .ok (.isub, 1) := o_100 (bg_dX7_copy_175 2 100 rfl)
theorem dX7_copy_178 : decode cX7_copy 178 = .ok (.if_icmp .le 10, 3) := o_164 (bg_dX7_copy_175 3 164 rfl) (bg_dX7_copy_175 4 0 rfl) (bg_dX7_copy_175 5 10 rfl) (by decide +kernel)
theorem dX7_copy_181 : decode cX7_copy 181 = .ok (.aload_n 0, 1) := o_42 (bg_dX7_copy_175 6 42 rfl)
theorem dX7_copy_182 : decode cX7_copy 182 = .ok (.bipush (-2), 2) := o_16 (bg_dX7_copy_175 7 16 rfl) (bg_dX7_copy_175 8 254 rfl) (by decide +kernel)
theorem dX7_copy_184 : decode cX7_copy 184 = .ok (.invokevirtual 89, 3) := o_182 (bg_dX7_copy_175 9 182 rfl) (bg_dX7_copy_175 10 0 rfl) (bg_dX7_copy_175 11 89 rfl)
theorem dX7_copy_187 : decode cX7_copy 187 = .ok (.ireturn, 1) := o_172 (bg_dX7_copy_175 12 172 rfl)
theorem dX7_copy_188 : decode cX7_copy 188 = .ok (.iconst 0, 1) := o_3 (bg_dX7_copy_175 13 3 rfl)
theorem dX7_copy_189 : decode cX7_copy 189 = .ok (.istore 6, 2) := o_54 (bg_dX7_copy_175 14 54 rfl) (bg_dX7_copy_175 15 6 rfl)
theorem dX7_copy_191 : decode cX7_copy 191 = .ok (.iload 6, 2) := o_21 (bg_dX7_copy_175 16 21 rfl) (bg_dX7_copy_175 17 6 rfl)
theorem dX7_copy_193 : decode cX7_copy 193 = .ok (.iload 5, 2) := o_21 (bg_dX7_copy_175 18 21 rfl) (bg_dX7_copy_175 19 5 rfl)
theorem dX7_copy_195 : decode cX7_copy 195 = .ok (.if_icmp .ge 27, 3) := o_162 (bg_dX7_copy_175 20 162 rfl) (bg_dX7_copy_175 21 0 rfl) (bg_dX7_copy_175 22 27 rfl) (by decide +kernel)
theorem dX7_copy_198 : decode cX7_copy 198 = .ok (.aload_n 0, 1) := o_42 (bg_dX7_copy_175 23 42 rfl)
theorem dX7_copy_199 : decode cX7_copy 199 = .ok (.getfield 24, 3) := o_180 (bg_dX7_copy_175 24 180 rfl) (bg_dX7_copy_175 25 0 rfl) (bg_dX7_copy_175 26 24 rfl)
theorem bg_dX7_copy_202 : bysAt cX7_copy 202 [21, 6, 42, 180, 0, 21, 27, 50, 29, 21, 6, 96, 47, 80, 132, 6, 1, 167, 255, 228, 3, 54, 6, 21, 6] := bysAt_of (by decide +kernel)
theorem dX7_copy_202 : decode cX7_copy 202 = .ok (.iload 6, 2) := o_21 (bg_dX7_copy_202 0 21 rfl) (bg_dX7_copy_202 1 6 rfl)
theorem dX7_copy_204 : decode cX7_copy 204 = .ok (.aload_n 0, 1) := o_42 (bg_dX7_copy_202 2 42 rfl)
theorem dX7_copy_205 : decode cX7_copy 205 = .ok (.getfield 21, 3) := o_180 (bg_dX7_copy_202 3 180 rfl) (bg_dX7_copy_202 4 0 rfl) (bg_dX7_copy_202 5 21 rfl)
theorem dX7_copy_208 : decode cX7_copy 208 = .ok (.iload_n 1, 1) := o_27 (bg_dX7_copy_202 6 27 rfl)
theorem dX7_copy_209 : decode cX7_copy 209 = .ok (.aaload, 1) := o_50 (bg_dX7_copy_202 7 50 rfl)
theorem dX7_copy_210 : decode cX7_copy 210 = .ok (.iload_n 3, 1) := o_29 (bg_dX7_copy_202 8 29 rfl)
theorem dX7_copy_211 : decode cX7_copy 211 = .ok (.iload 6, 2) := o_21 (bg_dX7_copy_202 9 21 rfl) (bg_dX7_copy_202 10 6 rfl)
theorem dX7_copy_213 : decode cX7_copy 213 = .ok (.iadd, 1) := o_96 (bg_dX7_copy_202 11 96 rfl)
theorem dX7_copy_214 : decode cX7_copy 214 = .ok (.laload, 1) := o_47 (bg_dX7_copy_202 12 47 rfl)
theorem dX7_copy_215 : decode cX7_copy 215 = .ok (.lastore, 1) := o_80 (bg_dX7_copy_202 13 80 rfl)
theorem dX7_copy_219 : decode cX7_copy 219 = .ok (.goto (-28), 3) := o_167 (bg_dX7_copy_202 17 167 rfl) (bg_dX7_copy_202 18 255 rfl) (bg_dX7_copy_202 19 228 rfl) (by decide +kernel)
theorem dX7_copy_222 : decode cX7_copy 222 = .ok (.iconst 0, 1) := o_3 (bg_dX7_copy_202 20 3 rfl)
theorem dX7_copy_223 : decode cX7_copy 223 = .ok (.istore 6, 2) := o_54 (bg_dX7_copy_202 21 54 rfl) (bg_dX7_copy_202 22 6 rfl)
theorem dX7_copy_225 : decode cX7_copy 225 = .ok (.iload 6, 2) := o_21 (bg_dX7_copy_202 23 21 rfl) (bg_dX7_copy_202 24 6 rfl)
theorem bg_dX7_copy_227 : bysAt cX7_copy 227 [21, 5, 162, 0, 28, 42, 180, 0, 21, 28, 50, 21, 4, 21, 6, 96, 42, 180, 0, 24, 21, 6, 47, 80] := bysAt_of (by decide +kernel)
theorem dX7_copy_227 : decode cX7_copy 227 = .ok (.iload 5, 2) := o_21 (bg_dX7_copy_227 0 21 rfl) (bg_dX7_copy_227 1 5 rfl)
theorem dX7_copy_229 : decode cX7_copy 229 = .ok (.if_icmp .ge 28, 3) := o_162 (bg_dX7_copy_227 2 162 rfl) (bg_dX7_copy_227 3 0 rfl) (bg_dX7_copy_227 4 28 rfl) (by decide +kernel)
theorem dX7_copy_232 : decode cX7_copy 232 = .ok (.aload_n 0, 1) := o_42 (bg_dX7_copy_227 5 42 rfl)
theorem dX7_copy_233 : decode cX7_copy 233 = .ok (.getfield 21, 3) := o_180 (bg_dX7_copy_227 6 180 rfl) (bg_dX7_copy_227 7 0 rfl) (bg_dX7_copy_227 8 21 rfl)
theorem dX7_copy_236 : decode cX7_copy 236 = .ok (.iload_n 2, 1) := o_28 (bg_dX7_copy_227 9 28 rfl)
theorem dX7_copy_237 : decode cX7_copy 237 = .ok (.aaload, 1) := o_50 (bg_dX7_copy_227 10 50 rfl)
theorem dX7_copy_238 : decode cX7_copy 238 = .ok (.iload 4, 2) := o_21 (bg_dX7_copy_227 11 21 rfl) (bg_dX7_copy_227 12 4 rfl)
theorem dX7_copy_240 : decode cX7_copy 240 = .ok (.iload 6, 2) := o_21 (bg_dX7_copy_227 13 21 rfl) (bg_dX7_copy_227 14 6 rfl)
theorem dX7_copy_242 : decode cX7_copy 242 = .ok (.iadd, 1) := o_96 (bg_dX7_copy_227 15 96 rfl)
theorem dX7_copy_243 : decode cX7_copy 243 = .ok (.aload_n 0, 1) := o_42 (bg_dX7_copy_227 16 42 rfl)
theorem dX7_copy_244 : decode cX7_copy 244 = .ok (.getfield 24, 3) := o_180 (bg_dX7_copy_227 17 180 rfl) (bg_dX7_copy_227 18 0 rfl) (bg_dX7_copy_227 19 24 rfl)
theorem dX7_copy_247 : decode cX7_copy 247 = .ok (.iload 6, 2) := o_21 (bg_dX7_copy_227 20 21 rfl) (bg_dX7_copy_227 21 6 rfl)
theorem dX7_copy_249 : decode cX7_copy 249 = .ok (.laload, 1) := o_47 (bg_dX7_copy_227 22 47 rfl)
theorem dX7_copy_250 : decode cX7_copy 250 = .ok (.lastore, 1) := o_80 (bg_dX7_copy_227 23 80 rfl)
theorem bg_dX7_copy_254 : bysAt cX7_copy 254 [167, 255, 227, 21, 5, 172] := bysAt_of (by decide +kernel)
theorem dX7_copy_254 : decode cX7_copy 254 = .ok (.goto (-29), 3) := o_167 (bg_dX7_copy_254 0 167 rfl) (bg_dX7_copy_254 1 255 rfl) (bg_dX7_copy_254 2 227 rfl) (by decide +kernel)
theorem dX7_copy_257 : decode cX7_copy 257 = .ok (.iload 5, 2) := o_21 (bg_dX7_copy_254 3 21 rfl) (bg_dX7_copy_254 4 5 rfl)
theorem dX7_copy_259 : decode cX7_copy 259 = .ok (.ireturn, 1) := o_172 (bg_dX7_copy_254 5 172 rfl)
theorem bg_dX7_element_0 : bysAt cX7_element 0 [27, 133, 9, 20, 0, 83, 184, 0, 62, 153, 0, 42, 42, 180, 0, 7, 27, 46, 4, 160, 0, 32, 28, 133] := bysAt_of (by decide +kernel)
theorem dX7_element_0 : decode cX7_element 0 = .ok (.iload_n 1, 1) := o_27 (bg_dX7_element_0 0 27 rfl)
theorem dX7_element_1 : decode cX7_element 1 = .ok (.i2l, 1) := o_133 (bg_dX7_element_0 1 133 rfl)
theorem dX7_element_2 : decode cX7_element 2 = .ok (.lconst 0, 1) := o_9 (bg_dX7_element_0 2 9 rfl)
theorem dX7_element_3 : decode cX7_element 3 = .ok (.ldc2_w 83, 3) := o_20 (bg_dX7_element_0 3 20 rfl) (bg_dX7_element_0 4 0 rfl) (bg_dX7_element_0 5 83 rfl)
theorem dX7_element_6 : decode cX7_element 6 = .ok (.invokestatic 62, 3) := o_184 (bg_dX7_element_0 6 184 rfl) (bg_dX7_element_0 7 0 rfl) (bg_dX7_element_0 8 62 rfl)
theorem dX7_element_9 : decode cX7_element 9 = .ok (.ifCond .eq 42, 3) := o_153 (bg_dX7_element_0 9 153 rfl) (bg_dX7_element_0 10 0 rfl) (bg_dX7_element_0 11 42 rfl) (by decide +kernel)
theorem dX7_element_12 : decode cX7_element 12 = .ok (.aload_n 0, 1) := o_42 (bg_dX7_element_0 12 42 rfl)
theorem dX7_element_13 : decode cX7_element 13 = .ok (.getfield 7, 3) := o_180 (bg_dX7_element_0 13 180 rfl) (bg_dX7_element_0 14 0 rfl) (bg_dX7_element_0 15 7 rfl)
theorem dX7_element_16 : decode cX7_element 16 = .ok (.iload_n 1, 1) := o_27 (bg_dX7_element_0 16 27 rfl)
theorem dX7_element_17 : decode cX7_element 17 = .ok (.iaload, 1) := o_46 (bg_dX7_element_0 17 46 rfl)
theorem dX7_element_18 : decode cX7_element 18 = .ok (.iconst 1, 1) := o_4 (bg_dX7_element_0 18 4 rfl)
theorem dX7_element_19 : decode cX7_element 19 = .ok (.if_icmp .ne 32, 3) := o_160 (bg_dX7_element_0 19 160 rfl) (bg_dX7_element_0 20 0 rfl) (bg_dX7_element_0 21 32 rfl) (by decide +kernel)
theorem dX7_element_22 : decode cX7_element 22 = .ok (.iload_n 2, 1) := o_28 (bg_dX7_element_0 22 28 rfl)
theorem dX7_element_23 : decode cX7_element 23 = .ok (.i2l, 1) := o_133 (bg_dX7_element_0 23 133 rfl)
theorem bg_dX7_element_24 : bysAt cX7_element 24 [9, 42, 180, 0, 16, 27, 46, 4, 100, 133, 184, 0, 62, 153, 0, 14, 42, 180, 0, 21, 27, 50] := bysAt_of (by decide +kernel)
theorem dX7_element_24 : decode cX7_element 24 = .ok (.lconst 0, 1) := o_9 (bg_dX7_element_24 0 9 rfl)
theorem dX7_element_25 : decode cX7_element 25 = .ok (.aload_n 0, 1) := o_42 (bg_dX7_element_24 1 42 rfl)
theorem dX7_element_26 : decode cX7_element 26 = .ok (.getfield 16, 3) := o_180 (bg_dX7_element_24 2 180 rfl) (bg_dX7_element_24 3 0 rfl) (bg_dX7_element_24 4 16 rfl)
theorem dX7_element_29 : decode cX7_element 29 = .ok (.iload_n 1, 1) := o_27 (bg_dX7_element_24 5 27 rfl)
theorem dX7_element_30 : decode cX7_element 30 = .ok (.iaload, 1) := o_46 (bg_dX7_element_24 6 46 rfl)
theorem dX7_element_31 : decode cX7_element 31 = .ok (.iconst 1, 1) := o_4 (bg_dX7_element_24 7 4 rfl)
theorem dX7_element_32 : decode cX7_element 32 = .ok (.isub, 1) := o_100 (bg_dX7_element_24 8 100 rfl)
theorem dX7_element_33 : decode cX7_element 33 = .ok (.i2l, 1) := o_133 (bg_dX7_element_24 9 133 rfl)
theorem dX7_element_34 : decode cX7_element 34 = .ok (.invokestatic 62, 3) := o_184 (bg_dX7_element_24 10 184 rfl) (bg_dX7_element_24 11 0 rfl) (bg_dX7_element_24 12 62 rfl)
theorem dX7_element_37 : decode cX7_element 37 = .ok (.ifCond .eq 14, 3) := o_153 (bg_dX7_element_24 13 153 rfl) (bg_dX7_element_24 14 0 rfl) (bg_dX7_element_24 15 14 rfl) (by decide +kernel)
theorem dX7_element_40 : decode cX7_element 40 = .ok (.aload_n 0, 1) := o_42 (bg_dX7_element_24 16 42 rfl)
theorem dX7_element_41 : decode cX7_element 41 = .ok (.getfield 21, 3) := o_180 (bg_dX7_element_24 17 180 rfl) (bg_dX7_element_24 18 0 rfl) (bg_dX7_element_24 19 21 rfl)
theorem dX7_element_44 : decode cX7_element 44 = .ok (.iload_n 1, 1) := o_27 (bg_dX7_element_24 20 27 rfl)
theorem dX7_element_45 : decode cX7_element 45 = .ok (.aaload, 1) := o_50 (bg_dX7_element_24 21 50 rfl)
theorem bg_dX7_element_46 : bysAt cX7_element 46 [28, 47, 167, 0, 4, 9, 173] := bysAt_of (by decide +kernel)
theorem dX7_element_46 : decode cX7_element 46 = .ok (.iload_n 2, 1) := o_28 (bg_dX7_element_46 0 28 rfl)
theorem dX7_element_47 : decode cX7_element 47 = .ok (.laload, 1) := o_47 (bg_dX7_element_46 1 47 rfl)
theorem dX7_element_48 : decode cX7_element 48 = .ok (.goto 4, 3) := o_167 (bg_dX7_element_46 2 167 rfl) (bg_dX7_element_46 3 0 rfl) (bg_dX7_element_46 4 4 rfl) (by decide +kernel)
theorem dX7_element_51 : decode cX7_element 51 = .ok (.lconst 0, 1) := o_9 (bg_dX7_element_46 5 9 rfl)
theorem dX7_element_52 : decode cX7_element 52 = .ok (.lreturn, 1) := o_173 (bg_dX7_element_46 6 173 rfl)
theorem bg_dX7_goes_0 : bysAt cX7_goes 0 [42, 27, 28, 182, 1, 4, 153, 0, 24, 42, 29, 182, 0, 126, 153, 0, 16, 21, 4, 133, 9, 20, 0, 85, 184, 0, 62] := bysAt_of (by decide +kernel)
theorem dX7_goes_0 : decode cX7_goes 0 = .ok (.aload_n 0, 1) := o_42 (bg_dX7_goes_0 0 42 rfl)
theorem dX7_goes_1 : decode cX7_goes 1 = .ok (.iload_n 1, 1) := o_27 (bg_dX7_goes_0 1 27 rfl)
theorem dX7_goes_2 : decode cX7_goes 2 = .ok (.iload_n 2, 1) := o_28 (bg_dX7_goes_0 2 28 rfl)
theorem dX7_goes_3 : decode cX7_goes 3 = .ok (.invokevirtual 260, 3) := o_182 (bg_dX7_goes_0 3 182 rfl) (bg_dX7_goes_0 4 1 rfl) (bg_dX7_goes_0 5 4 rfl)
theorem dX7_goes_6 : decode cX7_goes 6 = .ok (.ifCond .eq 24, 3) := o_153 (bg_dX7_goes_0 6 153 rfl) (bg_dX7_goes_0 7 0 rfl) (bg_dX7_goes_0 8 24 rfl) (by decide +kernel)
theorem dX7_goes_9 : decode cX7_goes 9 = .ok (.aload_n 0, 1) := o_42 (bg_dX7_goes_0 9 42 rfl)
theorem dX7_goes_10 : decode cX7_goes 10 = .ok (.iload_n 3, 1) := o_29 (bg_dX7_goes_0 10 29 rfl)
theorem dX7_goes_11 : decode cX7_goes 11 = .ok (.invokevirtual 126, 3) := o_182 (bg_dX7_goes_0 11 182 rfl) (bg_dX7_goes_0 12 0 rfl) (bg_dX7_goes_0 13 126 rfl)
theorem dX7_goes_14 : decode cX7_goes 14 = .ok (.ifCond .eq 16, 3) := o_153 (bg_dX7_goes_0 14 153 rfl) (bg_dX7_goes_0 15 0 rfl) (bg_dX7_goes_0 16 16 rfl) (by decide +kernel)
theorem dX7_goes_17 : decode cX7_goes 17 = .ok (.iload 4, 2) := o_21 (bg_dX7_goes_0 17 21 rfl) (bg_dX7_goes_0 18 4 rfl)
theorem dX7_goes_19 : decode cX7_goes 19 = .ok (.i2l, 1) := o_133 (bg_dX7_goes_0 19 133 rfl)
theorem dX7_goes_20 : decode cX7_goes 20 = .ok (.lconst 0, 1) := o_9 (bg_dX7_goes_0 20 9 rfl)
theorem dX7_goes_21 : decode cX7_goes 21 = .ok (.ldc2_w 85, 3) := o_20 (bg_dX7_goes_0 21 20 rfl) (bg_dX7_goes_0 22 0 rfl) (bg_dX7_goes_0 23 85 rfl)
theorem dX7_goes_24 : decode cX7_goes 24 = .ok (.invokestatic 62, 3) := o_184 (bg_dX7_goes_0 24 184 rfl) (bg_dX7_goes_0 25 0 rfl) (bg_dX7_goes_0 26 62 rfl)
theorem bg_dX7_goes_27 : bysAt cX7_goes 27 [154, 0, 10, 42, 16, 254, 182, 0, 89, 172, 42, 27, 28, 29, 182, 1, 25, 54, 5, 21, 4, 154, 0, 14, 21, 5] := bysAt_of (by decide +kernel)
theorem dX7_goes_27 : decode cX7_goes 27 = .ok (.ifCond .ne 10, 3) := o_154 (bg_dX7_goes_27 0 154 rfl) (bg_dX7_goes_27 1 0 rfl) (bg_dX7_goes_27 2 10 rfl) (by decide +kernel)
theorem dX7_goes_30 : decode cX7_goes 30 = .ok (.aload_n 0, 1) := o_42 (bg_dX7_goes_27 3 42 rfl)
theorem dX7_goes_31 : decode cX7_goes 31 = .ok (.bipush (-2), 2) := o_16 (bg_dX7_goes_27 4 16 rfl) (bg_dX7_goes_27 5 254 rfl) (by decide +kernel)
theorem dX7_goes_33 : decode cX7_goes 33 = .ok (.invokevirtual 89, 3) := o_182 (bg_dX7_goes_27 6 182 rfl) (bg_dX7_goes_27 7 0 rfl) (bg_dX7_goes_27 8 89 rfl)
theorem dX7_goes_36 : decode cX7_goes 36 = .ok (.ireturn, 1) := o_172 (bg_dX7_goes_27 9 172 rfl)
theorem dX7_goes_37 : decode cX7_goes 37 = .ok (.aload_n 0, 1) := o_42 (bg_dX7_goes_27 10 42 rfl)
theorem dX7_goes_38 : decode cX7_goes 38 = .ok (.iload_n 1, 1) := o_27 (bg_dX7_goes_27 11 27 rfl)
theorem dX7_goes_39 : decode cX7_goes 39 = .ok (.iload_n 2, 1) := o_28 (bg_dX7_goes_27 12 28 rfl)
theorem dX7_goes_40 : decode cX7_goes 40 = .ok (.iload_n 3, 1) := o_29 (bg_dX7_goes_27 13 29 rfl)
theorem dX7_goes_41 : decode cX7_goes 41 = .ok (.invokevirtual 281, 3) := o_182 (bg_dX7_goes_27 14 182 rfl) (bg_dX7_goes_27 15 1 rfl) (bg_dX7_goes_27 16 25 rfl)
theorem dX7_goes_44 : decode cX7_goes 44 = .ok (.istore 5, 2) := o_54 (bg_dX7_goes_27 17 54 rfl) (bg_dX7_goes_27 18 5 rfl)
theorem dX7_goes_46 : decode cX7_goes 46 = .ok (.iload 4, 2) := o_21 (bg_dX7_goes_27 19 21 rfl) (bg_dX7_goes_27 20 4 rfl)
theorem dX7_goes_48 : decode cX7_goes 48 = .ok (.ifCond .ne 14, 3) := o_154 (bg_dX7_goes_27 21 154 rfl) (bg_dX7_goes_27 22 0 rfl) (bg_dX7_goes_27 23 14 rfl) (by decide +kernel)
theorem dX7_goes_51 : decode cX7_goes 51 = .ok (.iload 5, 2) := o_21 (bg_dX7_goes_27 24 21 rfl) (bg_dX7_goes_27 25 5 rfl)
theorem bg_dX7_goes_53 : bysAt cX7_goes 53 [153, 0, 7, 4, 167, 0, 4, 3, 172, 21, 4, 6, 160, 0, 11, 42, 27, 28, 29, 182, 1, 18, 172] := bysAt_of (by decide +kernel)
theorem dX7_goes_53 : decode cX7_goes 53 = .ok (.ifCond .eq 7, 3) := o_153 (bg_dX7_goes_53 0 153 rfl) (bg_dX7_goes_53 1 0 rfl) (bg_dX7_goes_53 2 7 rfl) (by decide +kernel)
theorem dX7_goes_56 : decode cX7_goes 56 = .ok (.iconst 1, 1) := o_4 (bg_dX7_goes_53 3 4 rfl)
theorem dX7_goes_57 : decode cX7_goes 57 = .ok (.goto 4, 3) := o_167 (bg_dX7_goes_53 4 167 rfl) (bg_dX7_goes_53 5 0 rfl) (bg_dX7_goes_53 6 4 rfl) (by decide +kernel)
theorem dX7_goes_60 : decode cX7_goes 60 = .ok (.iconst 0, 1) := o_3 (bg_dX7_goes_53 7 3 rfl)
theorem dX7_goes_61 : decode cX7_goes 61 = .ok (.ireturn, 1) := o_172 (bg_dX7_goes_53 8 172 rfl)
theorem dX7_goes_62 : decode cX7_goes 62 = .ok (.iload 4, 2) := o_21 (bg_dX7_goes_53 9 21 rfl) (bg_dX7_goes_53 10 4 rfl)
theorem dX7_goes_64 : decode cX7_goes 64 = .ok (.iconst 3, 1) := o_6 (bg_dX7_goes_53 11 6 rfl)
theorem dX7_goes_65 : decode cX7_goes 65 = .ok (.if_icmp .ne 11, 3) := o_160 (bg_dX7_goes_53 12 160 rfl) (bg_dX7_goes_53 13 0 rfl) (bg_dX7_goes_53 14 11 rfl) (by decide +kernel)
theorem dX7_goes_68 : decode cX7_goes 68 = .ok (.aload_n 0, 1) := o_42 (bg_dX7_goes_53 15 42 rfl)
theorem dX7_goes_69 : decode cX7_goes 69 = .ok (.iload_n 1, 1) := o_27 (bg_dX7_goes_53 16 27 rfl)
theorem dX7_goes_70 : decode cX7_goes 70 = .ok (.iload_n 2, 1) := o_28 (bg_dX7_goes_53 17 28 rfl)
theorem dX7_goes_71 : decode cX7_goes 71 = .ok (.iload_n 3, 1) := o_29 (bg_dX7_goes_53 18 29 rfl)
theorem dX7_goes_72 : decode cX7_goes 72 = .ok (.invokevirtual 274, 3) := o_182 (bg_dX7_goes_53 19 182 rfl) (bg_dX7_goes_53 20 1 rfl) (bg_dX7_goes_53 21 18 rfl)
theorem dX7_goes_75 : decode cX7_goes 75 = .ok (.ireturn, 1) := o_172 (bg_dX7_goes_53 22 172 rfl)
theorem bg_dX7_goes_76 : bysAt cX7_goes 76 [21, 5, 154, 0, 10, 42, 16, 251, 182, 0, 89, 172, 21, 4, 4, 160, 0, 14, 42, 27, 28, 29, 4] := bysAt_of (by decide +kernel)
theorem dX7_goes_76 : decode cX7_goes 76 = .ok (.iload 5, 2) := o_21 (bg_dX7_goes_76 0 21 rfl) (bg_dX7_goes_76 1 5 rfl)
theorem dX7_goes_78 : decode cX7_goes 78 = .ok (.ifCond .ne 10, 3) := o_154 (bg_dX7_goes_76 2 154 rfl) (bg_dX7_goes_76 3 0 rfl) (bg_dX7_goes_76 4 10 rfl) (by decide +kernel)
theorem dX7_goes_81 : decode cX7_goes 81 = .ok (.aload_n 0, 1) := o_42 (bg_dX7_goes_76 5 42 rfl)
theorem dX7_goes_82 : decode cX7_goes 82 = .ok (.bipush (-5), 2) := o_16 (bg_dX7_goes_76 6 16 rfl) (bg_dX7_goes_76 7 251 rfl) (by decide +kernel)
theorem dX7_goes_84 : decode cX7_goes 84 = .ok (.invokevirtual 89, 3) := o_182 (bg_dX7_goes_76 8 182 rfl) (bg_dX7_goes_76 9 0 rfl) (bg_dX7_goes_76 10 89 rfl)
theorem dX7_goes_87 : decode cX7_goes 87 = .ok (.ireturn, 1) := o_172 (bg_dX7_goes_76 11 172 rfl)
theorem dX7_goes_88 : decode cX7_goes 88 = .ok (.iload 4, 2) := o_21 (bg_dX7_goes_76 12 21 rfl) (bg_dX7_goes_76 13 4 rfl)
theorem dX7_goes_90 : decode cX7_goes 90 = .ok (.iconst 1, 1) := o_4 (bg_dX7_goes_76 14 4 rfl)
theorem dX7_goes_91 : decode cX7_goes 91 = .ok (.if_icmp .ne 14, 3) := o_160 (bg_dX7_goes_76 15 160 rfl) (bg_dX7_goes_76 16 0 rfl) (bg_dX7_goes_76 17 14 rfl) (by decide +kernel)
theorem dX7_goes_94 : decode cX7_goes 94 = .ok (.aload_n 0, 1) := o_42 (bg_dX7_goes_76 18 42 rfl)
theorem dX7_goes_95 : decode cX7_goes 95 = .ok (.iload_n 1, 1) := o_27 (bg_dX7_goes_76 19 27 rfl)
theorem dX7_goes_96 : decode cX7_goes 96 = .ok (.iload_n 2, 1) := o_28 (bg_dX7_goes_76 20 28 rfl)
theorem dX7_goes_97 : decode cX7_goes 97 = .ok (.iload_n 3, 1) := o_29 (bg_dX7_goes_76 21 29 rfl)
theorem dX7_goes_98 : decode cX7_goes 98 = .ok (.iconst 1, 1) := o_4 (bg_dX7_goes_76 22 4 rfl)
theorem bg_dX7_goes_99 : bysAt cX7_goes 99 [182, 1, 29, 167, 0, 27, 21, 4, 5, 160, 0, 13, 42, 27, 28, 29, 182, 1, 33, 167, 0, 11, 42, 27, 28] := bysAt_of (by decide +kernel)
theorem dX7_goes_99 : decode cX7_goes 99 = .ok (.invokevirtual 285, 3) := o_182 (bg_dX7_goes_99 0 182 rfl) (bg_dX7_goes_99 1 1 rfl) (bg_dX7_goes_99 2 29 rfl)
theorem dX7_goes_102 : decode cX7_goes 102 = .ok (.goto 27, 3) := o_167 (bg_dX7_goes_99 3 167 rfl) (bg_dX7_goes_99 4 0 rfl) (bg_dX7_goes_99 5 27 rfl) (by decide +kernel)
theorem dX7_goes_105 : decode cX7_goes 105 = .ok (.iload 4, 2) := o_21 (bg_dX7_goes_99 6 21 rfl) (bg_dX7_goes_99 7 4 rfl)
theorem dX7_goes_107 : decode cX7_goes 107 = .ok (.iconst 2, 1) := o_5 (bg_dX7_goes_99 8 5 rfl)
theorem dX7_goes_108 : decode cX7_goes 108 = .ok (.if_icmp .ne 13, 3) := o_160 (bg_dX7_goes_99 9 160 rfl) (bg_dX7_goes_99 10 0 rfl) (bg_dX7_goes_99 11 13 rfl) (by decide +kernel)
theorem dX7_goes_111 : decode cX7_goes 111 = .ok (.aload_n 0, 1) := o_42 (bg_dX7_goes_99 12 42 rfl)
theorem dX7_goes_112 : decode cX7_goes 112 = .ok (.iload_n 1, 1) := o_27 (bg_dX7_goes_99 13 27 rfl)
theorem dX7_goes_113 : decode cX7_goes 113 = .ok (.iload_n 2, 1) := o_28 (bg_dX7_goes_99 14 28 rfl)
theorem dX7_goes_114 : decode cX7_goes 114 = .ok (.iload_n 3, 1) := o_29 (bg_dX7_goes_99 15 29 rfl)
theorem dX7_goes_115 : decode cX7_goes 115 = .ok (.invokevirtual 289, 3) := o_182 (bg_dX7_goes_99 16 182 rfl) (bg_dX7_goes_99 17 1 rfl) (bg_dX7_goes_99 18 33 rfl)
theorem dX7_goes_118 : decode cX7_goes 118 = .ok (.goto 11, 3) := o_167 (bg_dX7_goes_99 19 167 rfl) (bg_dX7_goes_99 20 0 rfl) (bg_dX7_goes_99 21 11 rfl) (by decide +kernel)
theorem dX7_goes_121 : decode cX7_goes 121 = .ok (.aload_n 0, 1) := o_42 (bg_dX7_goes_99 22 42 rfl)
theorem dX7_goes_122 : decode cX7_goes 122 = .ok (.iload_n 1, 1) := o_27 (bg_dX7_goes_99 23 27 rfl)
theorem dX7_goes_123 : decode cX7_goes 123 = .ok (.iload_n 2, 1) := o_28 (bg_dX7_goes_99 24 28 rfl)
theorem bg_dX7_goes_124 : bysAt cX7_goes 124 [29, 3, 182, 1, 21, 172] := bysAt_of (by decide +kernel)
theorem dX7_goes_124 : decode cX7_goes 124 = .ok (.iload_n 3, 1) := o_29 (bg_dX7_goes_124 0 29 rfl)
theorem dX7_goes_125 : decode cX7_goes 125 = .ok (.iconst 0, 1) := o_3 (bg_dX7_goes_124 1 3 rfl)
theorem dX7_goes_126 : decode cX7_goes 126 = .ok (.invokevirtual 277, 3) := o_182 (bg_dX7_goes_124 2 182 rfl) (bg_dX7_goes_124 3 1 rfl) (bg_dX7_goes_124 4 21 rfl)
theorem dX7_goes_129 : decode cX7_goes 129 = .ok (.ireturn, 1) := o_172 (bg_dX7_goes_124 5 172 rfl)
theorem bg_dX7_holds_0 : bysAt cX7_holds 0 [27, 133, 9, 20, 0, 83, 184, 0, 62, 153, 0, 12, 42, 180, 0, 7, 27, 46, 154, 0, 5, 2, 172, 42] := bysAt_of (by decide +kernel)
theorem dX7_holds_0 : decode cX7_holds 0 = .ok (.iload_n 1, 1) := o_27 (bg_dX7_holds_0 0 27 rfl)
theorem dX7_holds_1 : decode cX7_holds 1 = .ok (.i2l, 1) := o_133 (bg_dX7_holds_0 1 133 rfl)
theorem dX7_holds_2 : decode cX7_holds 2 = .ok (.lconst 0, 1) := o_9 (bg_dX7_holds_0 2 9 rfl)
theorem dX7_holds_3 : decode cX7_holds 3 = .ok (.ldc2_w 83, 3) := o_20 (bg_dX7_holds_0 3 20 rfl) (bg_dX7_holds_0 4 0 rfl) (bg_dX7_holds_0 5 83 rfl)
theorem dX7_holds_6 : decode cX7_holds 6 = .ok (.invokestatic 62, 3) := o_184 (bg_dX7_holds_0 6 184 rfl) (bg_dX7_holds_0 7 0 rfl) (bg_dX7_holds_0 8 62 rfl)
theorem dX7_holds_9 : decode cX7_holds 9 = .ok (.ifCond .eq 12, 3) := o_153 (bg_dX7_holds_0 9 153 rfl) (bg_dX7_holds_0 10 0 rfl) (bg_dX7_holds_0 11 12 rfl) (by decide +kernel)
theorem dX7_holds_12 : decode cX7_holds 12 = .ok (.aload_n 0, 1) := o_42 (bg_dX7_holds_0 12 42 rfl)
theorem dX7_holds_13 : decode cX7_holds 13 = .ok (.getfield 7, 3) := o_180 (bg_dX7_holds_0 13 180 rfl) (bg_dX7_holds_0 14 0 rfl) (bg_dX7_holds_0 15 7 rfl)
theorem dX7_holds_16 : decode cX7_holds 16 = .ok (.iload_n 1, 1) := o_27 (bg_dX7_holds_0 16 27 rfl)
theorem dX7_holds_17 : decode cX7_holds 17 = .ok (.iaload, 1) := o_46 (bg_dX7_holds_0 17 46 rfl)
theorem dX7_holds_18 : decode cX7_holds 18 = .ok (.ifCond .ne 5, 3) := o_154 (bg_dX7_holds_0 18 154 rfl) (bg_dX7_holds_0 19 0 rfl) (bg_dX7_holds_0 20 5 rfl) (by decide +kernel)
theorem dX7_holds_21 : decode cX7_holds 21 = .ok (.iconst (-1), 1) := o_2 (bg_dX7_holds_0 21 2 rfl)
theorem dX7_holds_22 : decode cX7_holds 22 = .ok (.ireturn, 1) := o_172 (bg_dX7_holds_0 22 172 rfl)
theorem dX7_holds_23 : decode cX7_holds 23 = .ok (.aload_n 0, 1) := o_42 (bg_dX7_holds_0 23 42 rfl)
theorem bg_dX7_holds_24 : bysAt cX7_holds 24 [180, 0, 7, 27, 46, 4, 160, 0, 12, 42, 180, 0, 13, 27, 46, 167, 0, 12, 16, 10, 42, 180, 0, 28, 27] := bysAt_of (by decide +kernel)
theorem dX7_holds_24 : decode cX7_holds 24 = .ok (.getfield 7, 3) := o_180 (bg_dX7_holds_24 0 180 rfl) (bg_dX7_holds_24 1 0 rfl) (bg_dX7_holds_24 2 7 rfl)
theorem dX7_holds_27 : decode cX7_holds 27 = .ok (.iload_n 1, 1) := o_27 (bg_dX7_holds_24 3 27 rfl)
theorem dX7_holds_28 : decode cX7_holds 28 = .ok (.iaload, 1) := o_46 (bg_dX7_holds_24 4 46 rfl)
theorem dX7_holds_29 : decode cX7_holds 29 = .ok (.iconst 1, 1) := o_4 (bg_dX7_holds_24 5 4 rfl)
theorem dX7_holds_30 : decode cX7_holds 30 = .ok (.if_icmp .ne 12, 3) := o_160 (bg_dX7_holds_24 6 160 rfl) (bg_dX7_holds_24 7 0 rfl) (bg_dX7_holds_24 8 12 rfl) (by decide +kernel)
theorem dX7_holds_33 : decode cX7_holds 33 = .ok (.aload_n 0, 1) := o_42 (bg_dX7_holds_24 9 42 rfl)
theorem dX7_holds_34 : decode cX7_holds 34 = .ok (.getfield 13, 3) := o_180 (bg_dX7_holds_24 10 180 rfl) (bg_dX7_holds_24 11 0 rfl) (bg_dX7_holds_24 12 13 rfl)
theorem dX7_holds_37 : decode cX7_holds 37 = .ok (.iload_n 1, 1) := o_27 (bg_dX7_holds_24 13 27 rfl)
theorem dX7_holds_38 : decode cX7_holds 38 = .ok (.iaload, 1) := o_46 (bg_dX7_holds_24 14 46 rfl)
theorem dX7_holds_39 : decode cX7_holds 39 = .ok (.goto 12, 3) := o_167 (bg_dX7_holds_24 15 167 rfl) (bg_dX7_holds_24 16 0 rfl) (bg_dX7_holds_24 17 12 rfl) (by decide +kernel)
theorem dX7_holds_42 : decode cX7_holds 42 = .ok (.bipush 10, 2) := o_16 (bg_dX7_holds_24 18 16 rfl) (bg_dX7_holds_24 19 10 rfl) (by decide +kernel)
theorem dX7_holds_44 : decode cX7_holds 44 = .ok (.aload_n 0, 1) := o_42 (bg_dX7_holds_24 20 42 rfl)
theorem dX7_holds_45 : decode cX7_holds 45 = .ok (.getfield 28, 3) := o_180 (bg_dX7_holds_24 21 180 rfl) (bg_dX7_holds_24 22 0 rfl) (bg_dX7_holds_24 23 28 rfl)
theorem dX7_holds_48 : decode cX7_holds 48 = .ok (.iload_n 1, 1) := o_27 (bg_dX7_holds_24 24 27 rfl)
theorem bg_dX7_holds_49 : bysAt cX7_holds 49 [46, 96, 172] := bysAt_of (by decide +kernel)
theorem dX7_holds_49 : decode cX7_holds 49 = .ok (.iaload, 1) := o_46 (bg_dX7_holds_49 0 46 rfl)
theorem dX7_holds_50 : decode cX7_holds 50 = .ok (.iadd, 1) := o_96 (bg_dX7_holds_49 1 96 rfl)
theorem dX7_holds_51 : decode cX7_holds 51 = .ok (.ireturn, 1) := o_172 (bg_dX7_holds_49 2 172 rfl)
theorem bg_dX7_length_0 : bysAt cX7_length 0 [42, 27, 182, 0, 76, 153, 0, 11, 42, 27, 182, 1, 1, 167, 0, 9, 42, 16, 254, 182, 0, 89, 172] := bysAt_of (by decide +kernel)
theorem dX7_length_0 : decode cX7_length 0 = .ok (.aload_n 0, 1) := o_42 (bg_dX7_length_0 0 42 rfl)
theorem dX7_length_1 : decode cX7_length 1 = .ok (.iload_n 1, 1) := o_27 (bg_dX7_length_0 1 27 rfl)
theorem dX7_length_2 : decode cX7_length 2 = .ok (.invokevirtual 76, 3) := o_182 (bg_dX7_length_0 2 182 rfl) (bg_dX7_length_0 3 0 rfl) (bg_dX7_length_0 4 76 rfl)
theorem dX7_length_5 : decode cX7_length 5 = .ok (.ifCond .eq 11, 3) := o_153 (bg_dX7_length_0 5 153 rfl) (bg_dX7_length_0 6 0 rfl) (bg_dX7_length_0 7 11 rfl) (by decide +kernel)
theorem dX7_length_8 : decode cX7_length 8 = .ok (.aload_n 0, 1) := o_42 (bg_dX7_length_0 8 42 rfl)
theorem dX7_length_9 : decode cX7_length 9 = .ok (.iload_n 1, 1) := o_27 (bg_dX7_length_0 9 27 rfl)
theorem dX7_length_10 : decode cX7_length 10 = .ok (.invokevirtual 257, 3) := o_182 (bg_dX7_length_0 10 182 rfl) (bg_dX7_length_0 11 1 rfl) (bg_dX7_length_0 12 1 rfl)
theorem dX7_length_13 : decode cX7_length 13 = .ok (.goto 9, 3) := o_167 (bg_dX7_length_0 13 167 rfl) (bg_dX7_length_0 14 0 rfl) (bg_dX7_length_0 15 9 rfl) (by decide +kernel)
theorem dX7_length_16 : decode cX7_length 16 = .ok (.aload_n 0, 1) := o_42 (bg_dX7_length_0 16 42 rfl)
theorem dX7_length_17 : decode cX7_length 17 = .ok (.bipush (-2), 2) := o_16 (bg_dX7_length_0 17 16 rfl) (bg_dX7_length_0 18 254 rfl) (by decide +kernel)
theorem dX7_length_19 : decode cX7_length 19 = .ok (.invokevirtual 89, 3) := o_182 (bg_dX7_length_0 19 182 rfl) (bg_dX7_length_0 20 0 rfl) (bg_dX7_length_0 21 89 rfl)
theorem dX7_length_22 : decode cX7_length 22 = .ok (.ireturn, 1) := o_172 (bg_dX7_length_0 22 172 rfl)
theorem bg_dX7_needs_0 : bysAt cX7_needs 0 [42, 27, 28, 182, 1, 4, 153, 0, 21, 42, 29, 182, 0, 97, 153, 0, 13, 42, 27, 28, 29, 182, 1, 15] := bysAt_of (by decide +kernel)
theorem dX7_needs_0 : decode cX7_needs 0 = .ok (.aload_n 0, 1) := o_42 (bg_dX7_needs_0 0 42 rfl)
theorem dX7_needs_1 : decode cX7_needs 1 = .ok (.iload_n 1, 1) := o_27 (bg_dX7_needs_0 1 27 rfl)
theorem dX7_needs_2 : decode cX7_needs 2 = .ok (.iload_n 2, 1) := o_28 (bg_dX7_needs_0 2 28 rfl)
theorem dX7_needs_3 : decode cX7_needs 3 = .ok (.invokevirtual 260, 3) := o_182 (bg_dX7_needs_0 3 182 rfl) (bg_dX7_needs_0 4 1 rfl) (bg_dX7_needs_0 5 4 rfl)
theorem dX7_needs_6 : decode cX7_needs 6 = .ok (.ifCond .eq 21, 3) := o_153 (bg_dX7_needs_0 6 153 rfl) (bg_dX7_needs_0 7 0 rfl) (bg_dX7_needs_0 8 21 rfl) (by decide +kernel)
theorem dX7_needs_9 : decode cX7_needs 9 = .ok (.aload_n 0, 1) := o_42 (bg_dX7_needs_0 9 42 rfl)
theorem dX7_needs_10 : decode cX7_needs 10 = .ok (.iload_n 3, 1) := o_29 (bg_dX7_needs_0 10 29 rfl)
theorem dX7_needs_11 : decode cX7_needs 11 = .ok (.invokevirtual 97, 3) := o_182 (bg_dX7_needs_0 11 182 rfl) (bg_dX7_needs_0 12 0 rfl) (bg_dX7_needs_0 13 97 rfl)
theorem dX7_needs_14 : decode cX7_needs 14 = .ok (.ifCond .eq 13, 3) := o_153 (bg_dX7_needs_0 14 153 rfl) (bg_dX7_needs_0 15 0 rfl) (bg_dX7_needs_0 16 13 rfl) (by decide +kernel)
theorem dX7_needs_17 : decode cX7_needs 17 = .ok (.aload_n 0, 1) := o_42 (bg_dX7_needs_0 17 42 rfl)
theorem dX7_needs_18 : decode cX7_needs 18 = .ok (.iload_n 1, 1) := o_27 (bg_dX7_needs_0 18 27 rfl)
theorem dX7_needs_19 : decode cX7_needs 19 = .ok (.iload_n 2, 1) := o_28 (bg_dX7_needs_0 19 28 rfl)
theorem dX7_needs_20 : decode cX7_needs 20 = .ok (.iload_n 3, 1) := o_29 (bg_dX7_needs_0 20 29 rfl)
theorem dX7_needs_21 : decode cX7_needs 21 = .ok (.invokevirtual 271, 3) := o_182 (bg_dX7_needs_0 21 182 rfl) (bg_dX7_needs_0 22 1 rfl) (bg_dX7_needs_0 23 15 rfl)
theorem bg_dX7_needs_24 : bysAt cX7_needs 24 [167, 0, 9, 42, 16, 254, 182, 0, 89, 172] := bysAt_of (by decide +kernel)
theorem dX7_needs_24 : decode cX7_needs 24 = .ok (.goto 9, 3) := o_167 (bg_dX7_needs_24 0 167 rfl) (bg_dX7_needs_24 1 0 rfl) (bg_dX7_needs_24 2 9 rfl) (by decide +kernel)
theorem dX7_needs_27 : decode cX7_needs 27 = .ok (.aload_n 0, 1) := o_42 (bg_dX7_needs_24 3 42 rfl)
theorem dX7_needs_28 : decode cX7_needs 28 = .ok (.bipush (-2), 2) := o_16 (bg_dX7_needs_24 4 16 rfl) (bg_dX7_needs_24 5 254 rfl) (by decide +kernel)
theorem dX7_needs_30 : decode cX7_needs 30 = .ok (.invokevirtual 89, 3) := o_182 (bg_dX7_needs_24 6 182 rfl) (bg_dX7_needs_24 7 0 rfl) (bg_dX7_needs_24 8 89 rfl)
theorem dX7_needs_33 : decode cX7_needs 33 = .ok (.ireturn, 1) := o_172 (bg_dX7_needs_24 9 172 rfl)
theorem bg_dX7_newBridge_0 : bysAt cX7_newBridge 0 [3, 60, 27, 16, 10, 162, 0, 21, 42, 180, 0, 42, 42, 180, 0, 70, 50, 27, 3, 79, 132, 1, 1, 167, 255, 235] := bysAt_of (by decide +kernel)
theorem dX7_newBridge_0 : decode cX7_newBridge 0 = .ok (.iconst 0, 1) := o_3 (bg_dX7_newBridge_0 0 3 rfl)
theorem dX7_newBridge_1 : decode cX7_newBridge 1 = .ok (.istore_n 1, 1) := o_60 (bg_dX7_newBridge_0 1 60 rfl)
theorem dX7_newBridge_2 : decode cX7_newBridge 2 = .ok (.iload_n 1, 1) := o_27 (bg_dX7_newBridge_0 2 27 rfl)
theorem dX7_newBridge_3 : decode cX7_newBridge 3 = .ok (.bipush 10, 2) := o_16 (bg_dX7_newBridge_0 3 16 rfl) (bg_dX7_newBridge_0 4 10 rfl) (by decide +kernel)
theorem dX7_newBridge_5 : decode cX7_newBridge 5 = .ok (.if_icmp .ge 21, 3) := o_162 (bg_dX7_newBridge_0 5 162 rfl) (bg_dX7_newBridge_0 6 0 rfl) (bg_dX7_newBridge_0 7 21 rfl) (by decide +kernel)
theorem dX7_newBridge_8 : decode cX7_newBridge 8 = .ok (.aload_n 0, 1) := o_42 (bg_dX7_newBridge_0 8 42 rfl)
theorem dX7_newBridge_9 : decode cX7_newBridge 9 = .ok (.getfield 42, 3) := o_180 (bg_dX7_newBridge_0 9 180 rfl) (bg_dX7_newBridge_0 10 0 rfl) (bg_dX7_newBridge_0 11 42 rfl)
theorem dX7_newBridge_12 : decode cX7_newBridge 12 = .ok (.aload_n 0, 1) := o_42 (bg_dX7_newBridge_0 12 42 rfl)
theorem dX7_newBridge_13 : decode cX7_newBridge 13 = .ok (.getfield 70, 3) := o_180 (bg_dX7_newBridge_0 13 180 rfl) (bg_dX7_newBridge_0 14 0 rfl) (bg_dX7_newBridge_0 15 70 rfl)
theorem dX7_newBridge_16 : decode cX7_newBridge 16 = .ok (.aaload, 1) := o_50 (bg_dX7_newBridge_0 16 50 rfl)
theorem dX7_newBridge_17 : decode cX7_newBridge 17 = .ok (.iload_n 1, 1) := o_27 (bg_dX7_newBridge_0 17 27 rfl)
theorem dX7_newBridge_18 : decode cX7_newBridge 18 = .ok (.iconst 0, 1) := o_3 (bg_dX7_newBridge_0 18 3 rfl)
theorem dX7_newBridge_19 : decode cX7_newBridge 19 = .ok (.iastore, 1) := o_79 (bg_dX7_newBridge_0 19 79 rfl)
theorem dX7_newBridge_23 : decode cX7_newBridge 23 = .ok (.goto (-21), 3) := o_167 (bg_dX7_newBridge_0 23 167 rfl) (bg_dX7_newBridge_0 24 255 rfl) (bg_dX7_newBridge_0 25 235 rfl) (by decide +kernel)
theorem bg_dX7_newBridge_26 : bysAt cX7_newBridge 26 [177] := bysAt_of (by decide +kernel)
theorem dX7_newBridge_26 : decode cX7_newBridge 26 = .ok (.return_, 1) := o_177 (bg_dX7_newBridge_26 0 177 rfl)
theorem bg_dX7_newRoad_0 : bysAt cX7_newRoad 0 [42, 180, 0, 39, 42, 180, 0, 66, 50, 78, 45, 3, 27, 79, 45, 4, 28, 79] := bysAt_of (by decide +kernel)
theorem dX7_newRoad_0 : decode cX7_newRoad 0 = .ok (.aload_n 0, 1) := o_42 (bg_dX7_newRoad_0 0 42 rfl)
theorem dX7_newRoad_1 : decode cX7_newRoad 1 = .ok (.getfield 39, 3) := o_180 (bg_dX7_newRoad_0 1 180 rfl) (bg_dX7_newRoad_0 2 0 rfl) (bg_dX7_newRoad_0 3 39 rfl)
theorem dX7_newRoad_4 : decode cX7_newRoad 4 = .ok (.aload_n 0, 1) := o_42 (bg_dX7_newRoad_0 4 42 rfl)
theorem dX7_newRoad_5 : decode cX7_newRoad 5 = .ok (.getfield 66, 3) := o_180 (bg_dX7_newRoad_0 5 180 rfl) (bg_dX7_newRoad_0 6 0 rfl) (bg_dX7_newRoad_0 7 66 rfl)
theorem dX7_newRoad_8 : decode cX7_newRoad 8 = .ok (.aaload, 1) := o_50 (bg_dX7_newRoad_0 8 50 rfl)
theorem dX7_newRoad_9 : decode cX7_newRoad 9 = .ok (.astore_n 3, 1) := o_78 (bg_dX7_newRoad_0 9 78 rfl)
theorem dX7_newRoad_10 : decode cX7_newRoad 10 = .ok (.aload_n 3, 1) := o_45 (bg_dX7_newRoad_0 10 45 rfl)
theorem dX7_newRoad_11 : decode cX7_newRoad 11 = .ok (.iconst 0, 1) := o_3 (bg_dX7_newRoad_0 11 3 rfl)
theorem dX7_newRoad_12 : decode cX7_newRoad 12 = .ok (.iload_n 1, 1) := o_27 (bg_dX7_newRoad_0 12 27 rfl)
theorem dX7_newRoad_13 : decode cX7_newRoad 13 = .ok (.iastore, 1) := o_79 (bg_dX7_newRoad_0 13 79 rfl)
theorem dX7_newRoad_14 : decode cX7_newRoad 14 = .ok (.aload_n 3, 1) := o_45 (bg_dX7_newRoad_0 14 45 rfl)
theorem dX7_newRoad_15 : decode cX7_newRoad 15 = .ok (.iconst 1, 1) := o_4 (bg_dX7_newRoad_0 15 4 rfl)
theorem dX7_newRoad_16 : decode cX7_newRoad 16 = .ok (.iload_n 2, 1) := o_28 (bg_dX7_newRoad_0 16 28 rfl)
theorem dX7_newRoad_17 : decode cX7_newRoad 17 = .ok (.iastore, 1) := o_79 (bg_dX7_newRoad_0 17 79 rfl)
theorem bg_dX7_newRoad_18 : bysAt cX7_newRoad 18 [45, 5, 3, 79, 45, 6, 3, 79, 45, 7, 16, 99, 79, 45, 8] := bysAt_of (by decide +kernel)
theorem dX7_newRoad_18 : decode cX7_newRoad 18 = .ok (.aload_n 3, 1) := o_45 (bg_dX7_newRoad_18 0 45 rfl)
theorem dX7_newRoad_19 : decode cX7_newRoad 19 = .ok (.iconst 2, 1) := o_5 (bg_dX7_newRoad_18 1 5 rfl)
theorem dX7_newRoad_20 : decode cX7_newRoad 20 = .ok (.iconst 0, 1) := o_3 (bg_dX7_newRoad_18 2 3 rfl)
theorem dX7_newRoad_21 : decode cX7_newRoad 21 = .ok (.iastore, 1) := o_79 (bg_dX7_newRoad_18 3 79 rfl)
theorem dX7_newRoad_22 : decode cX7_newRoad 22 = .ok (.aload_n 3, 1) := o_45 (bg_dX7_newRoad_18 4 45 rfl)
theorem dX7_newRoad_23 : decode cX7_newRoad 23 = .ok (.iconst 3, 1) := o_6 (bg_dX7_newRoad_18 5 6 rfl)
theorem dX7_newRoad_24 : decode cX7_newRoad 24 = .ok (.iconst 0, 1) := o_3 (bg_dX7_newRoad_18 6 3 rfl)
theorem dX7_newRoad_25 : decode cX7_newRoad 25 = .ok (.iastore, 1) := o_79 (bg_dX7_newRoad_18 7 79 rfl)
theorem dX7_newRoad_26 : decode cX7_newRoad 26 = .ok (.aload_n 3, 1) := o_45 (bg_dX7_newRoad_18 8 45 rfl)
theorem dX7_newRoad_27 : decode cX7_newRoad 27 = .ok (.iconst 4, 1) := o_7 (bg_dX7_newRoad_18 9 7 rfl)
theorem dX7_newRoad_28 : decode cX7_newRoad 28 = .ok (.bipush 99, 2) := o_16 (bg_dX7_newRoad_18 10 16 rfl) (bg_dX7_newRoad_18 11 99 rfl) (by decide +kernel)
theorem dX7_newRoad_30 : decode cX7_newRoad 30 = .ok (.iastore, 1) := o_79 (bg_dX7_newRoad_18 12 79 rfl)
theorem dX7_newRoad_31 : decode cX7_newRoad 31 = .ok (.aload_n 3, 1) := o_45 (bg_dX7_newRoad_18 13 45 rfl)
theorem dX7_newRoad_32 : decode cX7_newRoad 32 = .ok (.iconst 5, 1) := o_8 (bg_dX7_newRoad_18 14 8 rfl)
theorem bg_dX7_newRoad_33 : bysAt cX7_newRoad 33 [3, 79, 45, 16, 6, 3, 79, 177] := bysAt_of (by decide +kernel)
theorem dX7_newRoad_33 : decode cX7_newRoad 33 = .ok (.iconst 0, 1) := o_3 (bg_dX7_newRoad_33 0 3 rfl)
theorem dX7_newRoad_34 : decode cX7_newRoad 34 = .ok (.iastore, 1) := o_79 (bg_dX7_newRoad_33 1 79 rfl)
theorem dX7_newRoad_35 : decode cX7_newRoad 35 = .ok (.aload_n 3, 1) := o_45 (bg_dX7_newRoad_33 2 45 rfl)
theorem dX7_newRoad_36 : decode cX7_newRoad 36 = .ok (.bipush 6, 2) := o_16 (bg_dX7_newRoad_33 3 16 rfl) (bg_dX7_newRoad_33 4 6 rfl) (by decide +kernel)
theorem dX7_newRoad_38 : decode cX7_newRoad 38 = .ok (.iconst 0, 1) := o_3 (bg_dX7_newRoad_33 5 3 rfl)
theorem dX7_newRoad_39 : decode cX7_newRoad 39 = .ok (.iastore, 1) := o_79 (bg_dX7_newRoad_33 6 79 rfl)
theorem dX7_newRoad_40 : decode cX7_newRoad 40 = .ok (.return_, 1) := o_177 (bg_dX7_newRoad_33 7 177 rfl)
theorem bg_dX7_part_0 : bysAt cX7_part 0 [27, 133, 10, 20, 0, 120, 184, 0, 62, 153, 0, 15, 28, 133, 9, 20, 0, 120, 184, 0, 62, 154, 0, 10, 42, 16, 254] := bysAt_of (by decide +kernel)
theorem dX7_part_0 : decode cX7_part 0 = .ok (.iload_n 1, 1) := o_27 (bg_dX7_part_0 0 27 rfl)
theorem dX7_part_1 : decode cX7_part 1 = .ok (.i2l, 1) := o_133 (bg_dX7_part_0 1 133 rfl)
theorem dX7_part_2 : decode cX7_part 2 = .ok (.lconst 1, 1) := o_10 (bg_dX7_part_0 2 10 rfl)
theorem dX7_part_3 : decode cX7_part 3 = .ok (.ldc2_w 120, 3) := o_20 (bg_dX7_part_0 3 20 rfl) (bg_dX7_part_0 4 0 rfl) (bg_dX7_part_0 5 120 rfl)
theorem dX7_part_6 : decode cX7_part 6 = .ok (.invokestatic 62, 3) := o_184 (bg_dX7_part_0 6 184 rfl) (bg_dX7_part_0 7 0 rfl) (bg_dX7_part_0 8 62 rfl)
theorem dX7_part_9 : decode cX7_part 9 = .ok (.ifCond .eq 15, 3) := o_153 (bg_dX7_part_0 9 153 rfl) (bg_dX7_part_0 10 0 rfl) (bg_dX7_part_0 11 15 rfl) (by decide +kernel)
theorem dX7_part_12 : decode cX7_part 12 = .ok (.iload_n 2, 1) := o_28 (bg_dX7_part_0 12 28 rfl)
theorem dX7_part_13 : decode cX7_part 13 = .ok (.i2l, 1) := o_133 (bg_dX7_part_0 13 133 rfl)
theorem dX7_part_14 : decode cX7_part 14 = .ok (.lconst 0, 1) := o_9 (bg_dX7_part_0 14 9 rfl)
theorem dX7_part_15 : decode cX7_part 15 = .ok (.ldc2_w 120, 3) := o_20 (bg_dX7_part_0 15 20 rfl) (bg_dX7_part_0 16 0 rfl) (bg_dX7_part_0 17 120 rfl)
theorem dX7_part_18 : decode cX7_part 18 = .ok (.invokestatic 62, 3) := o_184 (bg_dX7_part_0 18 184 rfl) (bg_dX7_part_0 19 0 rfl) (bg_dX7_part_0 20 62 rfl)
theorem dX7_part_21 : decode cX7_part 21 = .ok (.ifCond .ne 10, 3) := o_154 (bg_dX7_part_0 21 154 rfl) (bg_dX7_part_0 22 0 rfl) (bg_dX7_part_0 23 10 rfl) (by decide +kernel)
theorem dX7_part_24 : decode cX7_part 24 = .ok (.aload_n 0, 1) := o_42 (bg_dX7_part_0 24 42 rfl)
theorem dX7_part_25 : decode cX7_part 25 = .ok (.bipush (-2), 2) := o_16 (bg_dX7_part_0 25 16 rfl) (bg_dX7_part_0 26 254 rfl) (by decide +kernel)
theorem bg_dX7_part_27 : bysAt cX7_part 27 [182, 0, 89, 172, 42, 180, 0, 80, 8, 160, 0, 10, 42, 16, 250, 182, 0, 89, 172, 42, 180, 0, 48, 42, 180, 0, 80] := bysAt_of (by decide +kernel)
theorem dX7_part_27 : decode cX7_part 27 = .ok (.invokevirtual 89, 3) := o_182 (bg_dX7_part_27 0 182 rfl) (bg_dX7_part_27 1 0 rfl) (bg_dX7_part_27 2 89 rfl)
theorem dX7_part_30 : decode cX7_part 30 = .ok (.ireturn, 1) := o_172 (bg_dX7_part_27 3 172 rfl)
theorem dX7_part_31 : decode cX7_part 31 = .ok (.aload_n 0, 1) := o_42 (bg_dX7_part_27 4 42 rfl)
theorem dX7_part_32 : decode cX7_part 32 = .ok (.getfield 80, 3) := o_180 (bg_dX7_part_27 5 180 rfl) (bg_dX7_part_27 6 0 rfl) (bg_dX7_part_27 7 80 rfl)
theorem dX7_part_35 : decode cX7_part 35 = .ok (.iconst 5, 1) := o_8 (bg_dX7_part_27 8 8 rfl)
theorem dX7_part_36 : decode cX7_part 36 = .ok (.if_icmp .ne 10, 3) := o_160 (bg_dX7_part_27 9 160 rfl) (bg_dX7_part_27 10 0 rfl) (bg_dX7_part_27 11 10 rfl) (by decide +kernel)
theorem dX7_part_39 : decode cX7_part 39 = .ok (.aload_n 0, 1) := o_42 (bg_dX7_part_27 12 42 rfl)
theorem dX7_part_40 : decode cX7_part 40 = .ok (.bipush (-6), 2) := o_16 (bg_dX7_part_27 13 16 rfl) (bg_dX7_part_27 14 250 rfl) (by decide +kernel)
theorem dX7_part_42 : decode cX7_part 42 = .ok (.invokevirtual 89, 3) := o_182 (bg_dX7_part_27 15 182 rfl) (bg_dX7_part_27 16 0 rfl) (bg_dX7_part_27 17 89 rfl)
theorem dX7_part_45 : decode cX7_part 45 = .ok (.ireturn, 1) := o_172 (bg_dX7_part_27 18 172 rfl)
theorem dX7_part_46 : decode cX7_part 46 = .ok (.aload_n 0, 1) := o_42 (bg_dX7_part_27 19 42 rfl)
theorem dX7_part_47 : decode cX7_part 47 = .ok (.getfield 48, 3) := o_180 (bg_dX7_part_27 20 180 rfl) (bg_dX7_part_27 21 0 rfl) (bg_dX7_part_27 22 48 rfl)
theorem dX7_part_50 : decode cX7_part 50 = .ok (.aload_n 0, 1) := o_42 (bg_dX7_part_27 23 42 rfl)
theorem dX7_part_51 : decode cX7_part 51 = .ok (.getfield 80, 3) := o_180 (bg_dX7_part_27 24 180 rfl) (bg_dX7_part_27 25 0 rfl) (bg_dX7_part_27 26 80 rfl)
theorem bg_dX7_part_54 : bysAt cX7_part 54 [50, 3, 27, 79, 42, 180, 0, 48, 42, 180, 0, 80, 50, 4, 28, 79, 42, 89] := bysAt_of (by decide +kernel)
theorem dX7_part_54 : decode cX7_part 54 = .ok (.aaload, 1) := o_50 (bg_dX7_part_54 0 50 rfl)
theorem dX7_part_55 : decode cX7_part 55 = .ok (.iconst 0, 1) := o_3 (bg_dX7_part_54 1 3 rfl)
theorem dX7_part_56 : decode cX7_part 56 = .ok (.iload_n 1, 1) := o_27 (bg_dX7_part_54 2 27 rfl)
theorem dX7_part_57 : decode cX7_part 57 = .ok (.iastore, 1) := o_79 (bg_dX7_part_54 3 79 rfl)
theorem dX7_part_58 : decode cX7_part 58 = .ok (.aload_n 0, 1) := o_42 (bg_dX7_part_54 4 42 rfl)
theorem dX7_part_59 : decode cX7_part 59 = .ok (.getfield 48, 3) := o_180 (bg_dX7_part_54 5 180 rfl) (bg_dX7_part_54 6 0 rfl) (bg_dX7_part_54 7 48 rfl)
theorem dX7_part_62 : decode cX7_part 62 = .ok (.aload_n 0, 1) := o_42 (bg_dX7_part_54 8 42 rfl)
theorem dX7_part_63 : decode cX7_part 63 = .ok (.getfield 80, 3) := o_180 (bg_dX7_part_54 9 180 rfl) (bg_dX7_part_54 10 0 rfl) (bg_dX7_part_54 11 80 rfl)
theorem dX7_part_66 : decode cX7_part 66 = .ok (.aaload, 1) := o_50 (bg_dX7_part_54 12 50 rfl)
theorem dX7_part_67 : decode cX7_part 67 = .ok (.iconst 1, 1) := o_4 (bg_dX7_part_54 13 4 rfl)
theorem dX7_part_68 : decode cX7_part 68 = .ok (.iload_n 2, 1) := o_28 (bg_dX7_part_54 14 28 rfl)
theorem dX7_part_69 : decode cX7_part 69 = .ok (.iastore, 1) := o_79 (bg_dX7_part_54 15 79 rfl)
theorem dX7_part_70 : decode cX7_part 70 = .ok (.aload_n 0, 1) := o_42 (bg_dX7_part_54 16 42 rfl)
theorem dX7_part_71 : decode cX7_part 71 = .ok (.dup, 1) := o_89 (bg_dX7_part_54 17 89 rfl)
theorem bg_dX7_part_72 : bysAt cX7_part 72 [180, 0, 80, 90, 4, 96, 181, 0, 80, 172] := bysAt_of (by decide +kernel)
theorem dX7_part_72 : decode cX7_part 72 = .ok (.getfield 80, 3) := o_180 (bg_dX7_part_72 0 180 rfl) (bg_dX7_part_72 1 0 rfl) (bg_dX7_part_72 2 80 rfl)
theorem dX7_part_75 : decode cX7_part 75 = .ok (.dup_x1, 1) := o_90 (bg_dX7_part_72 3 90 rfl)
theorem dX7_part_76 : decode cX7_part 76 = .ok (.iconst 1, 1) := o_4 (bg_dX7_part_72 4 4 rfl)
theorem dX7_part_77 : decode cX7_part 77 = .ok (.iadd, 1) := o_96 (bg_dX7_part_72 5 96 rfl)
theorem dX7_part_78 : decode cX7_part 78 = .ok (.putfield 80, 3) := o_181 (bg_dX7_part_72 6 181 rfl) (bg_dX7_part_72 7 0 rfl) (bg_dX7_part_72 8 80 rfl)
theorem dX7_part_81 : decode cX7_part 81 = .ok (.ireturn, 1) := o_172 (bg_dX7_part_72 9 172 rfl)
theorem bg_dX7_prop_0 : bysAt cX7_prop 0 [42, 27, 182, 0, 97, 153, 0, 27, 28, 133, 9, 20, 0, 129, 184, 0, 62, 153, 0, 15, 29, 133, 9, 20, 0, 129] := bysAt_of (by decide +kernel)
theorem dX7_prop_0 : decode cX7_prop 0 = .ok (.aload_n 0, 1) := o_42 (bg_dX7_prop_0 0 42 rfl)
theorem dX7_prop_1 : decode cX7_prop 1 = .ok (.iload_n 1, 1) := o_27 (bg_dX7_prop_0 1 27 rfl)
theorem dX7_prop_2 : decode cX7_prop 2 = .ok (.invokevirtual 97, 3) := o_182 (bg_dX7_prop_0 2 182 rfl) (bg_dX7_prop_0 3 0 rfl) (bg_dX7_prop_0 4 97 rfl)
theorem dX7_prop_5 : decode cX7_prop 5 = .ok (.ifCond .eq 27, 3) := o_153 (bg_dX7_prop_0 5 153 rfl) (bg_dX7_prop_0 6 0 rfl) (bg_dX7_prop_0 7 27 rfl) (by decide +kernel)
theorem dX7_prop_8 : decode cX7_prop 8 = .ok (.iload_n 2, 1) := o_28 (bg_dX7_prop_0 8 28 rfl)
theorem dX7_prop_9 : decode cX7_prop 9 = .ok (.i2l, 1) := o_133 (bg_dX7_prop_0 9 133 rfl)
theorem dX7_prop_10 : decode cX7_prop 10 = .ok (.lconst 0, 1) := o_9 (bg_dX7_prop_0 10 9 rfl)
theorem dX7_prop_11 : decode cX7_prop 11 = .ok (.ldc2_w 129, 3) := o_20 (bg_dX7_prop_0 11 20 rfl) (bg_dX7_prop_0 12 0 rfl) (bg_dX7_prop_0 13 129 rfl)
theorem dX7_prop_14 : decode cX7_prop 14 = .ok (.invokestatic 62, 3) := o_184 (bg_dX7_prop_0 14 184 rfl) (bg_dX7_prop_0 15 0 rfl) (bg_dX7_prop_0 16 62 rfl)
theorem dX7_prop_17 : decode cX7_prop 17 = .ok (.ifCond .eq 15, 3) := o_153 (bg_dX7_prop_0 17 153 rfl) (bg_dX7_prop_0 18 0 rfl) (bg_dX7_prop_0 19 15 rfl) (by decide +kernel)
theorem dX7_prop_20 : decode cX7_prop 20 = .ok (.iload_n 3, 1) := o_29 (bg_dX7_prop_0 20 29 rfl)
theorem dX7_prop_21 : decode cX7_prop 21 = .ok (.i2l, 1) := o_133 (bg_dX7_prop_0 21 133 rfl)
theorem dX7_prop_22 : decode cX7_prop 22 = .ok (.lconst 0, 1) := o_9 (bg_dX7_prop_0 22 9 rfl)
theorem dX7_prop_23 : decode cX7_prop 23 = .ok (.ldc2_w 129, 3) := o_20 (bg_dX7_prop_0 23 20 rfl) (bg_dX7_prop_0 24 0 rfl) (bg_dX7_prop_0 25 129 rfl)
theorem bg_dX7_prop_26 : bysAt cX7_prop 26 [184, 0, 62, 154, 0, 10, 42, 16, 254, 182, 0, 89, 172, 42, 180, 0, 42, 27, 50, 8, 28, 79, 42] := bysAt_of (by decide +kernel)
theorem dX7_prop_26 : decode cX7_prop 26 = .ok (.invokestatic 62, 3) := o_184 (bg_dX7_prop_26 0 184 rfl) (bg_dX7_prop_26 1 0 rfl) (bg_dX7_prop_26 2 62 rfl)
theorem dX7_prop_29 : decode cX7_prop 29 = .ok (.ifCond .ne 10, 3) := o_154 (bg_dX7_prop_26 3 154 rfl) (bg_dX7_prop_26 4 0 rfl) (bg_dX7_prop_26 5 10 rfl) (by decide +kernel)
theorem dX7_prop_32 : decode cX7_prop 32 = .ok (.aload_n 0, 1) := o_42 (bg_dX7_prop_26 6 42 rfl)
theorem dX7_prop_33 : decode cX7_prop 33 = .ok (.bipush (-2), 2) := o_16 (bg_dX7_prop_26 7 16 rfl) (bg_dX7_prop_26 8 254 rfl) (by decide +kernel)
theorem dX7_prop_35 : decode cX7_prop 35 = .ok (.invokevirtual 89, 3) := o_182 (bg_dX7_prop_26 9 182 rfl) (bg_dX7_prop_26 10 0 rfl) (bg_dX7_prop_26 11 89 rfl)
theorem dX7_prop_38 : decode cX7_prop 38 = .ok (.ireturn, 1) := o_172 (bg_dX7_prop_26 12 172 rfl)
theorem dX7_prop_39 : decode cX7_prop 39 = .ok (.aload_n 0, 1) := o_42 (bg_dX7_prop_26 13 42 rfl)
theorem dX7_prop_40 : decode cX7_prop 40 = .ok (.getfield 42, 3) := o_180 (bg_dX7_prop_26 14 180 rfl) (bg_dX7_prop_26 15 0 rfl) (bg_dX7_prop_26 16 42 rfl)
theorem dX7_prop_43 : decode cX7_prop 43 = .ok (.iload_n 1, 1) := o_27 (bg_dX7_prop_26 17 27 rfl)
theorem dX7_prop_44 : decode cX7_prop 44 = .ok (.aaload, 1) := o_50 (bg_dX7_prop_26 18 50 rfl)
theorem dX7_prop_45 : decode cX7_prop 45 = .ok (.iconst 5, 1) := o_8 (bg_dX7_prop_26 19 8 rfl)
theorem dX7_prop_46 : decode cX7_prop 46 = .ok (.iload_n 2, 1) := o_28 (bg_dX7_prop_26 20 28 rfl)
theorem dX7_prop_47 : decode cX7_prop 47 = .ok (.iastore, 1) := o_79 (bg_dX7_prop_26 21 79 rfl)
theorem dX7_prop_48 : decode cX7_prop 48 = .ok (.aload_n 0, 1) := o_42 (bg_dX7_prop_26 22 42 rfl)
theorem bg_dX7_prop_49 : bysAt cX7_prop 49 [180, 0, 42, 27, 50, 16, 6, 29, 79, 4, 172] := bysAt_of (by decide +kernel)
theorem dX7_prop_49 : decode cX7_prop 49 = .ok (.getfield 42, 3) := o_180 (bg_dX7_prop_49 0 180 rfl) (bg_dX7_prop_49 1 0 rfl) (bg_dX7_prop_49 2 42 rfl)
theorem dX7_prop_52 : decode cX7_prop 52 = .ok (.iload_n 1, 1) := o_27 (bg_dX7_prop_49 3 27 rfl)
theorem dX7_prop_53 : decode cX7_prop 53 = .ok (.aaload, 1) := o_50 (bg_dX7_prop_49 4 50 rfl)
theorem dX7_prop_54 : decode cX7_prop 54 = .ok (.bipush 6, 2) := o_16 (bg_dX7_prop_49 5 16 rfl) (bg_dX7_prop_49 6 6 rfl) (by decide +kernel)
theorem dX7_prop_56 : decode cX7_prop 56 = .ok (.iload_n 3, 1) := o_29 (bg_dX7_prop_49 7 29 rfl)
theorem dX7_prop_57 : decode cX7_prop 57 = .ok (.iastore, 1) := o_79 (bg_dX7_prop_49 8 79 rfl)
theorem dX7_prop_58 : decode cX7_prop 58 = .ok (.iconst 1, 1) := o_4 (bg_dX7_prop_49 9 4 rfl)
theorem dX7_prop_59 : decode cX7_prop 59 = .ok (.ireturn, 1) := o_172 (bg_dX7_prop_49 10 172 rfl)
theorem bg_dX7_road_0 : bysAt cX7_road 0 [27, 184, 0, 113, 153, 0, 44, 28, 184, 0, 113, 153, 0, 37, 27, 28, 159, 0, 32, 29, 133, 10, 20, 0, 116, 184, 0, 62] := bysAt_of (by decide +kernel)
theorem dX7_road_0 : decode cX7_road 0 = .ok (.iload_n 1, 1) := o_27 (bg_dX7_road_0 0 27 rfl)
theorem dX7_road_1 : decode cX7_road 1 = .ok (.invokestatic 113, 3) := o_184 (bg_dX7_road_0 1 184 rfl) (bg_dX7_road_0 2 0 rfl) (bg_dX7_road_0 3 113 rfl)
theorem dX7_road_4 : decode cX7_road 4 = .ok (.ifCond .eq 44, 3) := o_153 (bg_dX7_road_0 4 153 rfl) (bg_dX7_road_0 5 0 rfl) (bg_dX7_road_0 6 44 rfl) (by decide +kernel)
theorem dX7_road_7 : decode cX7_road 7 = .ok (.iload_n 2, 1) := o_28 (bg_dX7_road_0 7 28 rfl)
theorem dX7_road_8 : decode cX7_road 8 = .ok (.invokestatic 113, 3) := o_184 (bg_dX7_road_0 8 184 rfl) (bg_dX7_road_0 9 0 rfl) (bg_dX7_road_0 10 113 rfl)
theorem dX7_road_11 : decode cX7_road 11 = .ok (.ifCond .eq 37, 3) := o_153 (bg_dX7_road_0 11 153 rfl) (bg_dX7_road_0 12 0 rfl) (bg_dX7_road_0 13 37 rfl) (by decide +kernel)
theorem dX7_road_14 : decode cX7_road 14 = .ok (.iload_n 1, 1) := o_27 (bg_dX7_road_0 14 27 rfl)
theorem dX7_road_15 : decode cX7_road 15 = .ok (.iload_n 2, 1) := o_28 (bg_dX7_road_0 15 28 rfl)
theorem dX7_road_16 : decode cX7_road 16 = .ok (.if_icmp .eq 32, 3) := o_159 (bg_dX7_road_0 16 159 rfl) (bg_dX7_road_0 17 0 rfl) (bg_dX7_road_0 18 32 rfl) (by decide +kernel)
theorem dX7_road_19 : decode cX7_road 19 = .ok (.iload_n 3, 1) := o_29 (bg_dX7_road_0 19 29 rfl)
theorem dX7_road_20 : decode cX7_road 20 = .ok (.i2l, 1) := o_133 (bg_dX7_road_0 20 133 rfl)
theorem dX7_road_21 : decode cX7_road 21 = .ok (.lconst 1, 1) := o_10 (bg_dX7_road_0 21 10 rfl)
theorem dX7_road_22 : decode cX7_road 22 = .ok (.ldc2_w 116, 3) := o_20 (bg_dX7_road_0 22 20 rfl) (bg_dX7_road_0 23 0 rfl) (bg_dX7_road_0 24 116 rfl)
theorem dX7_road_25 : decode cX7_road 25 = .ok (.invokestatic 62, 3) := o_184 (bg_dX7_road_0 25 184 rfl) (bg_dX7_road_0 26 0 rfl) (bg_dX7_road_0 27 62 rfl)
theorem bg_dX7_road_28 : bysAt cX7_road 28 [153, 0, 20, 21, 4, 133, 9, 20, 0, 118, 184, 0, 62, 153, 0, 7, 4, 167, 0, 4, 3, 54, 7, 21, 7, 153, 0, 29, 21, 5] := bysAt_of (by decide +kernel)
theorem dX7_road_28 : decode cX7_road 28 = .ok (.ifCond .eq 20, 3) := o_153 (bg_dX7_road_28 0 153 rfl) (bg_dX7_road_28 1 0 rfl) (bg_dX7_road_28 2 20 rfl) (by decide +kernel)
theorem dX7_road_31 : decode cX7_road 31 = .ok (.iload 4, 2) := o_21 (bg_dX7_road_28 3 21 rfl) (bg_dX7_road_28 4 4 rfl)
theorem dX7_road_33 : decode cX7_road 33 = .ok (.i2l, 1) := o_133 (bg_dX7_road_28 5 133 rfl)
theorem dX7_road_34 : decode cX7_road 34 = .ok (.lconst 0, 1) := o_9 (bg_dX7_road_28 6 9 rfl)
theorem dX7_road_35 : decode cX7_road 35 = .ok (.ldc2_w 118, 3) := o_20 (bg_dX7_road_28 7 20 rfl) (bg_dX7_road_28 8 0 rfl) (bg_dX7_road_28 9 118 rfl)
theorem dX7_road_38 : decode cX7_road 38 = .ok (.invokestatic 62, 3) := o_184 (bg_dX7_road_28 10 184 rfl) (bg_dX7_road_28 11 0 rfl) (bg_dX7_road_28 12 62 rfl)
theorem dX7_road_41 : decode cX7_road 41 = .ok (.ifCond .eq 7, 3) := o_153 (bg_dX7_road_28 13 153 rfl) (bg_dX7_road_28 14 0 rfl) (bg_dX7_road_28 15 7 rfl) (by decide +kernel)
theorem dX7_road_44 : decode cX7_road 44 = .ok (.iconst 1, 1) := o_4 (bg_dX7_road_28 16 4 rfl)
theorem dX7_road_45 : decode cX7_road 45 = .ok (.goto 4, 3) := o_167 (bg_dX7_road_28 17 167 rfl) (bg_dX7_road_28 18 0 rfl) (bg_dX7_road_28 19 4 rfl) (by decide +kernel)
theorem dX7_road_48 : decode cX7_road 48 = .ok (.iconst 0, 1) := o_3 (bg_dX7_road_28 20 3 rfl)
theorem dX7_road_49 : decode cX7_road 49 = .ok (.istore 7, 2) := o_54 (bg_dX7_road_28 21 54 rfl) (bg_dX7_road_28 22 7 rfl)
theorem dX7_road_51 : decode cX7_road 51 = .ok (.iload 7, 2) := o_21 (bg_dX7_road_28 23 21 rfl) (bg_dX7_road_28 24 7 rfl)
theorem dX7_road_53 : decode cX7_road 53 = .ok (.ifCond .eq 29, 3) := o_153 (bg_dX7_road_28 25 153 rfl) (bg_dX7_road_28 26 0 rfl) (bg_dX7_road_28 27 29 rfl) (by decide +kernel)
theorem dX7_road_56 : decode cX7_road 56 = .ok (.iload 5, 2) := o_21 (bg_dX7_road_28 28 21 rfl) (bg_dX7_road_28 29 5 rfl)
theorem bg_dX7_road_58 : bysAt cX7_road 58 [133, 10, 20, 0, 120, 184, 0, 62, 153, 0, 16, 21, 6, 133, 9, 20, 0, 60, 184, 0, 62, 154, 0, 10, 42, 16, 254, 182, 0, 89] := bysAt_of (by decide +kernel)
theorem dX7_road_58 : decode cX7_road 58 = .ok (.i2l, 1) := o_133 (bg_dX7_road_58 0 133 rfl)
theorem dX7_road_59 : decode cX7_road 59 = .ok (.lconst 1, 1) := o_10 (bg_dX7_road_58 1 10 rfl)
theorem dX7_road_60 : decode cX7_road 60 = .ok (.ldc2_w 120, 3) := o_20 (bg_dX7_road_58 2 20 rfl) (bg_dX7_road_58 3 0 rfl) (bg_dX7_road_58 4 120 rfl)
theorem dX7_road_63 : decode cX7_road 63 = .ok (.invokestatic 62, 3) := o_184 (bg_dX7_road_58 5 184 rfl) (bg_dX7_road_58 6 0 rfl) (bg_dX7_road_58 7 62 rfl)
theorem dX7_road_66 : decode cX7_road 66 = .ok (.ifCond .eq 16, 3) := o_153 (bg_dX7_road_58 8 153 rfl) (bg_dX7_road_58 9 0 rfl) (bg_dX7_road_58 10 16 rfl) (by decide +kernel)
theorem dX7_road_69 : decode cX7_road 69 = .ok (.iload 6, 2) := o_21 (bg_dX7_road_58 11 21 rfl) (bg_dX7_road_58 12 6 rfl)
theorem dX7_road_71 : decode cX7_road 71 = .ok (.i2l, 1) := o_133 (bg_dX7_road_58 13 133 rfl)
theorem dX7_road_72 : decode cX7_road 72 = .ok (.lconst 0, 1) := o_9 (bg_dX7_road_58 14 9 rfl)
theorem dX7_road_73 : decode cX7_road 73 = .ok (.ldc2_w 60, 3) := o_20 (bg_dX7_road_58 15 20 rfl) (bg_dX7_road_58 16 0 rfl) (bg_dX7_road_58 17 60 rfl)
theorem dX7_road_76 : decode cX7_road 76 = .ok (.invokestatic 62, 3) := o_184 (bg_dX7_road_58 18 184 rfl) (bg_dX7_road_58 19 0 rfl) (bg_dX7_road_58 20 62 rfl)
theorem dX7_road_79 : decode cX7_road 79 = .ok (.ifCond .ne 10, 3) := o_154 (bg_dX7_road_58 21 154 rfl) (bg_dX7_road_58 22 0 rfl) (bg_dX7_road_58 23 10 rfl) (by decide +kernel)
theorem dX7_road_82 : decode cX7_road 82 = .ok (.aload_n 0, 1) := o_42 (bg_dX7_road_58 24 42 rfl)
theorem dX7_road_83 : decode cX7_road 83 = .ok (.bipush (-2), 2) := o_16 (bg_dX7_road_58 25 16 rfl) (bg_dX7_road_58 26 254 rfl) (by decide +kernel)
theorem dX7_road_85 : decode cX7_road 85 = .ok (.invokevirtual 89, 3) := o_182 (bg_dX7_road_58 27 182 rfl) (bg_dX7_road_58 28 0 rfl) (bg_dX7_road_58 29 89 rfl)
theorem bg_dX7_road_88 : bysAt cX7_road 88 [172, 42, 180, 0, 66, 16, 24, 160, 0, 10, 42, 16, 250, 182, 0, 89, 172, 42, 27, 28, 182, 0, 122, 42] := bysAt_of (by decide +kernel)
theorem dX7_road_88 : decode cX7_road 88 = .ok (.ireturn, 1) := o_172 (bg_dX7_road_88 0 172 rfl)
theorem dX7_road_89 : decode cX7_road 89 = .ok (.aload_n 0, 1) := o_42 (bg_dX7_road_88 1 42 rfl)
theorem dX7_road_90 : decode cX7_road 90 = .ok (.getfield 66, 3) := o_180 (bg_dX7_road_88 2 180 rfl) (bg_dX7_road_88 3 0 rfl) (bg_dX7_road_88 4 66 rfl)
theorem dX7_road_93 : decode cX7_road 93 = .ok (.bipush 24, 2) := o_16 (bg_dX7_road_88 5 16 rfl) (bg_dX7_road_88 6 24 rfl) (by decide +kernel)
theorem dX7_road_95 : decode cX7_road 95 = .ok (.if_icmp .ne 10, 3) := o_160 (bg_dX7_road_88 7 160 rfl) (bg_dX7_road_88 8 0 rfl) (bg_dX7_road_88 9 10 rfl) (by decide +kernel)
theorem dX7_road_98 : decode cX7_road 98 = .ok (.aload_n 0, 1) := o_42 (bg_dX7_road_88 10 42 rfl)
theorem dX7_road_99 : decode cX7_road 99 = .ok (.bipush (-6), 2) := o_16 (bg_dX7_road_88 11 16 rfl) (bg_dX7_road_88 12 250 rfl) (by decide +kernel)
theorem dX7_road_101 : decode cX7_road 101 = .ok (.invokevirtual 89, 3) := o_182 (bg_dX7_road_88 13 182 rfl) (bg_dX7_road_88 14 0 rfl) (bg_dX7_road_88 15 89 rfl)
theorem dX7_road_104 : decode cX7_road 104 = .ok (.ireturn, 1) := o_172 (bg_dX7_road_88 16 172 rfl)
theorem dX7_road_105 : decode cX7_road 105 = .ok (.aload_n 0, 1) := o_42 (bg_dX7_road_88 17 42 rfl)
theorem dX7_road_106 : decode cX7_road 106 = .ok (.iload_n 1, 1) := o_27 (bg_dX7_road_88 18 27 rfl)
theorem dX7_road_107 : decode cX7_road 107 = .ok (.iload_n 2, 1) := o_28 (bg_dX7_road_88 19 28 rfl)
theorem dX7_road_108 : decode cX7_road 108 = .ok (.invokevirtual 122, 3) := o_182 (bg_dX7_road_88 20 182 rfl) (bg_dX7_road_88 21 0 rfl) (bg_dX7_road_88 22 122 rfl)
theorem dX7_road_111 : decode cX7_road 111 = .ok (.aload_n 0, 1) := o_42 (bg_dX7_road_88 23 42 rfl)
theorem bg_dX7_road_112 : bysAt cX7_road 112 [180, 0, 39, 42, 180, 0, 66, 50, 5, 29, 79, 42, 180, 0, 39, 42, 180, 0, 66, 50, 6, 21, 4] := bysAt_of (by decide +kernel)
theorem dX7_road_112 : decode cX7_road 112 = .ok (.getfield 39, 3) := o_180 (bg_dX7_road_112 0 180 rfl) (bg_dX7_road_112 1 0 rfl) (bg_dX7_road_112 2 39 rfl)
theorem dX7_road_115 : decode cX7_road 115 = .ok (.aload_n 0, 1) := o_42 (bg_dX7_road_112 3 42 rfl)
theorem dX7_road_116 : decode cX7_road 116 = .ok (.getfield 66, 3) := o_180 (bg_dX7_road_112 4 180 rfl) (bg_dX7_road_112 5 0 rfl) (bg_dX7_road_112 6 66 rfl)
theorem dX7_road_119 : decode cX7_road 119 = .ok (.aaload, 1) := o_50 (bg_dX7_road_112 7 50 rfl)
theorem dX7_road_120 : decode cX7_road 120 = .ok (.iconst 2, 1) := o_5 (bg_dX7_road_112 8 5 rfl)
theorem dX7_road_121 : decode cX7_road 121 = .ok (.iload_n 3, 1) := o_29 (bg_dX7_road_112 9 29 rfl)
theorem dX7_road_122 : decode cX7_road 122 = .ok (.iastore, 1) := o_79 (bg_dX7_road_112 10 79 rfl)
theorem dX7_road_123 : decode cX7_road 123 = .ok (.aload_n 0, 1) := o_42 (bg_dX7_road_112 11 42 rfl)
theorem dX7_road_124 : decode cX7_road 124 = .ok (.getfield 39, 3) := o_180 (bg_dX7_road_112 12 180 rfl) (bg_dX7_road_112 13 0 rfl) (bg_dX7_road_112 14 39 rfl)
theorem dX7_road_127 : decode cX7_road 127 = .ok (.aload_n 0, 1) := o_42 (bg_dX7_road_112 15 42 rfl)
theorem dX7_road_128 : decode cX7_road 128 = .ok (.getfield 66, 3) := o_180 (bg_dX7_road_112 16 180 rfl) (bg_dX7_road_112 17 0 rfl) (bg_dX7_road_112 18 66 rfl)
theorem dX7_road_131 : decode cX7_road 131 = .ok (.aaload, 1) := o_50 (bg_dX7_road_112 19 50 rfl)
theorem dX7_road_132 : decode cX7_road 132 = .ok (.iconst 3, 1) := o_6 (bg_dX7_road_112 20 6 rfl)
theorem dX7_road_133 : decode cX7_road 133 = .ok (.iload 4, 2) := o_21 (bg_dX7_road_112 21 21 rfl) (bg_dX7_road_112 22 4 rfl)
theorem bg_dX7_road_135 : bysAt cX7_road 135 [79, 42, 180, 0, 39, 42, 180, 0, 66, 50, 7, 21, 5, 79, 42, 180, 0, 39, 42, 180, 0, 66, 50] := bysAt_of (by decide +kernel)
theorem dX7_road_135 : decode cX7_road 135 = .ok (.iastore, 1) := o_79 (bg_dX7_road_135 0 79 rfl)
theorem dX7_road_136 : decode cX7_road 136 = .ok (.aload_n 0, 1) := o_42 (bg_dX7_road_135 1 42 rfl)
theorem dX7_road_137 : decode cX7_road 137 = .ok (.getfield 39, 3) := o_180 (bg_dX7_road_135 2 180 rfl) (bg_dX7_road_135 3 0 rfl) (bg_dX7_road_135 4 39 rfl)
theorem dX7_road_140 : decode cX7_road 140 = .ok (.aload_n 0, 1) := o_42 (bg_dX7_road_135 5 42 rfl)
theorem dX7_road_141 : decode cX7_road 141 = .ok (.getfield 66, 3) := o_180 (bg_dX7_road_135 6 180 rfl) (bg_dX7_road_135 7 0 rfl) (bg_dX7_road_135 8 66 rfl)
theorem dX7_road_144 : decode cX7_road 144 = .ok (.aaload, 1) := o_50 (bg_dX7_road_135 9 50 rfl)
theorem dX7_road_145 : decode cX7_road 145 = .ok (.iconst 4, 1) := o_7 (bg_dX7_road_135 10 7 rfl)
theorem dX7_road_146 : decode cX7_road 146 = .ok (.iload 5, 2) := o_21 (bg_dX7_road_135 11 21 rfl) (bg_dX7_road_135 12 5 rfl)
theorem dX7_road_148 : decode cX7_road 148 = .ok (.iastore, 1) := o_79 (bg_dX7_road_135 13 79 rfl)
theorem dX7_road_149 : decode cX7_road 149 = .ok (.aload_n 0, 1) := o_42 (bg_dX7_road_135 14 42 rfl)
theorem dX7_road_150 : decode cX7_road 150 = .ok (.getfield 39, 3) := o_180 (bg_dX7_road_135 15 180 rfl) (bg_dX7_road_135 16 0 rfl) (bg_dX7_road_135 17 39 rfl)
theorem dX7_road_153 : decode cX7_road 153 = .ok (.aload_n 0, 1) := o_42 (bg_dX7_road_135 18 42 rfl)
theorem dX7_road_154 : decode cX7_road 154 = .ok (.getfield 66, 3) := o_180 (bg_dX7_road_135 19 180 rfl) (bg_dX7_road_135 20 0 rfl) (bg_dX7_road_135 21 66 rfl)
theorem dX7_road_157 : decode cX7_road 157 = .ok (.aaload, 1) := o_50 (bg_dX7_road_135 22 50 rfl)
theorem bg_dX7_road_158 : bysAt cX7_road 158 [8, 21, 6, 79, 42, 89, 180, 0, 66, 90, 4, 96, 181, 0, 66, 172] := bysAt_of (by decide +kernel)
theorem dX7_road_158 : decode cX7_road 158 = .ok (.iconst 5, 1) := o_8 (bg_dX7_road_158 0 8 rfl)
theorem dX7_road_159 : decode cX7_road 159 = .ok (.iload 6, 2) := o_21 (bg_dX7_road_158 1 21 rfl) (bg_dX7_road_158 2 6 rfl)
theorem dX7_road_161 : decode cX7_road 161 = .ok (.iastore, 1) := o_79 (bg_dX7_road_158 3 79 rfl)
theorem dX7_road_162 : decode cX7_road 162 = .ok (.aload_n 0, 1) := o_42 (bg_dX7_road_158 4 42 rfl)
theorem dX7_road_163 : decode cX7_road 163 = .ok (.dup, 1) := o_89 (bg_dX7_road_158 5 89 rfl)
theorem dX7_road_164 : decode cX7_road 164 = .ok (.getfield 66, 3) := o_180 (bg_dX7_road_158 6 180 rfl) (bg_dX7_road_158 7 0 rfl) (bg_dX7_road_158 8 66 rfl)
theorem dX7_road_167 : decode cX7_road 167 = .ok (.dup_x1, 1) := o_90 (bg_dX7_road_158 9 90 rfl)
theorem dX7_road_168 : decode cX7_road 168 = .ok (.iconst 1, 1) := o_4 (bg_dX7_road_158 10 4 rfl)
theorem dX7_road_169 : decode cX7_road 169 = .ok (.iadd, 1) := o_96 (bg_dX7_road_158 11 96 rfl)
theorem dX7_road_170 : decode cX7_road 170 = .ok (.putfield 66, 3) := o_181 (bg_dX7_road_158 12 181 rfl) (bg_dX7_road_158 13 0 rfl) (bg_dX7_road_158 14 66 rfl)
theorem dX7_road_173 : decode cX7_road 173 = .ok (.ireturn, 1) := o_172 (bg_dX7_road_158 15 172 rfl)
theorem bg_dX7_roadOf_0 : bysAt cX7_roadOf 0 [42, 27, 182, 0, 126, 153, 0, 26, 28, 133, 9, 20, 0, 249, 184, 0, 62, 153, 0, 14, 42, 180, 0, 39, 27, 50] := bysAt_of (by decide +kernel)
theorem dX7_roadOf_0 : decode cX7_roadOf 0 = .ok (.aload_n 0, 1) := o_42 (bg_dX7_roadOf_0 0 42 rfl)
theorem dX7_roadOf_1 : decode cX7_roadOf 1 = .ok (.iload_n 1, 1) := o_27 (bg_dX7_roadOf_0 1 27 rfl)
theorem dX7_roadOf_2 : decode cX7_roadOf 2 = .ok (.invokevirtual 126, 3) := o_182 (bg_dX7_roadOf_0 2 182 rfl) (bg_dX7_roadOf_0 3 0 rfl) (bg_dX7_roadOf_0 4 126 rfl)
theorem dX7_roadOf_5 : decode cX7_roadOf 5 = .ok (.ifCond .eq 26, 3) := o_153 (bg_dX7_roadOf_0 5 153 rfl) (bg_dX7_roadOf_0 6 0 rfl) (bg_dX7_roadOf_0 7 26 rfl) (by decide +kernel)
theorem dX7_roadOf_8 : decode cX7_roadOf 8 = .ok (.iload_n 2, 1) := o_28 (bg_dX7_roadOf_0 8 28 rfl)
theorem dX7_roadOf_9 : decode cX7_roadOf 9 = .ok (.i2l, 1) := o_133 (bg_dX7_roadOf_0 9 133 rfl)
theorem dX7_roadOf_10 : decode cX7_roadOf 10 = .ok (.lconst 0, 1) := o_9 (bg_dX7_roadOf_0 10 9 rfl)
theorem dX7_roadOf_11 : decode cX7_roadOf 11 = .ok (.ldc2_w 249, 3) := o_20 (bg_dX7_roadOf_0 11 20 rfl) (bg_dX7_roadOf_0 12 0 rfl) (bg_dX7_roadOf_0 13 249 rfl)
theorem dX7_roadOf_14 : decode cX7_roadOf 14 = .ok (.invokestatic 62, 3) := o_184 (bg_dX7_roadOf_0 14 184 rfl) (bg_dX7_roadOf_0 15 0 rfl) (bg_dX7_roadOf_0 16 62 rfl)
theorem dX7_roadOf_17 : decode cX7_roadOf 17 = .ok (.ifCond .eq 14, 3) := o_153 (bg_dX7_roadOf_0 17 153 rfl) (bg_dX7_roadOf_0 18 0 rfl) (bg_dX7_roadOf_0 19 14 rfl) (by decide +kernel)
theorem dX7_roadOf_20 : decode cX7_roadOf 20 = .ok (.aload_n 0, 1) := o_42 (bg_dX7_roadOf_0 20 42 rfl)
theorem dX7_roadOf_21 : decode cX7_roadOf 21 = .ok (.getfield 39, 3) := o_180 (bg_dX7_roadOf_0 21 180 rfl) (bg_dX7_roadOf_0 22 0 rfl) (bg_dX7_roadOf_0 23 39 rfl)
theorem dX7_roadOf_24 : decode cX7_roadOf 24 = .ok (.iload_n 1, 1) := o_27 (bg_dX7_roadOf_0 24 27 rfl)
theorem dX7_roadOf_25 : decode cX7_roadOf 25 = .ok (.aaload, 1) := o_50 (bg_dX7_roadOf_0 25 50 rfl)
theorem bg_dX7_roadOf_26 : bysAt cX7_roadOf 26 [28, 46, 167, 0, 9, 42, 16, 254, 182, 0, 89, 172] := bysAt_of (by decide +kernel)
theorem dX7_roadOf_26 : decode cX7_roadOf 26 = .ok (.iload_n 2, 1) := o_28 (bg_dX7_roadOf_26 0 28 rfl)
theorem dX7_roadOf_27 : decode cX7_roadOf 27 = .ok (.iaload, 1) := o_46 (bg_dX7_roadOf_26 1 46 rfl)
theorem dX7_roadOf_28 : decode cX7_roadOf 28 = .ok (.goto 9, 3) := o_167 (bg_dX7_roadOf_26 2 167 rfl) (bg_dX7_roadOf_26 3 0 rfl) (bg_dX7_roadOf_26 4 9 rfl) (by decide +kernel)
theorem dX7_roadOf_31 : decode cX7_roadOf 31 = .ok (.aload_n 0, 1) := o_42 (bg_dX7_roadOf_26 5 42 rfl)
theorem dX7_roadOf_32 : decode cX7_roadOf 32 = .ok (.bipush (-2), 2) := o_16 (bg_dX7_roadOf_26 6 16 rfl) (bg_dX7_roadOf_26 7 254 rfl) (by decide +kernel)
theorem dX7_roadOf_34 : decode cX7_roadOf 34 = .ok (.invokevirtual 89, 3) := o_182 (bg_dX7_roadOf_26 8 182 rfl) (bg_dX7_roadOf_26 9 0 rfl) (bg_dX7_roadOf_26 10 89 rfl)
theorem dX7_roadOf_37 : decode cX7_roadOf 37 = .ok (.ireturn, 1) := o_172 (bg_dX7_roadOf_26 11 172 rfl)
theorem bg_dX7_row_0 : bysAt cX7_row 0 [27, 133, 9, 20, 0, 83, 184, 0, 62, 153, 0, 27, 28, 133, 9, 20, 0, 85, 184, 0, 62, 153, 0, 15, 29, 133] := bysAt_of (by decide +kernel)
theorem dX7_row_0 : decode cX7_row 0 = .ok (.iload_n 1, 1) := o_27 (bg_dX7_row_0 0 27 rfl)
theorem dX7_row_1 : decode cX7_row 1 = .ok (.i2l, 1) := o_133 (bg_dX7_row_0 1 133 rfl)
theorem dX7_row_2 : decode cX7_row 2 = .ok (.lconst 0, 1) := o_9 (bg_dX7_row_0 2 9 rfl)
theorem dX7_row_3 : decode cX7_row 3 = .ok (.ldc2_w 83, 3) := o_20 (bg_dX7_row_0 3 20 rfl) (bg_dX7_row_0 4 0 rfl) (bg_dX7_row_0 5 83 rfl)
theorem dX7_row_6 : decode cX7_row 6 = .ok (.invokestatic 62, 3) := o_184 (bg_dX7_row_0 6 184 rfl) (bg_dX7_row_0 7 0 rfl) (bg_dX7_row_0 8 62 rfl)
theorem dX7_row_9 : decode cX7_row 9 = .ok (.ifCond .eq 27, 3) := o_153 (bg_dX7_row_0 9 153 rfl) (bg_dX7_row_0 10 0 rfl) (bg_dX7_row_0 11 27 rfl) (by decide +kernel)
theorem dX7_row_12 : decode cX7_row 12 = .ok (.iload_n 2, 1) := o_28 (bg_dX7_row_0 12 28 rfl)
theorem dX7_row_13 : decode cX7_row 13 = .ok (.i2l, 1) := o_133 (bg_dX7_row_0 13 133 rfl)
theorem dX7_row_14 : decode cX7_row 14 = .ok (.lconst 0, 1) := o_9 (bg_dX7_row_0 14 9 rfl)
theorem dX7_row_15 : decode cX7_row 15 = .ok (.ldc2_w 85, 3) := o_20 (bg_dX7_row_0 15 20 rfl) (bg_dX7_row_0 16 0 rfl) (bg_dX7_row_0 17 85 rfl)
theorem dX7_row_18 : decode cX7_row 18 = .ok (.invokestatic 62, 3) := o_184 (bg_dX7_row_0 18 184 rfl) (bg_dX7_row_0 19 0 rfl) (bg_dX7_row_0 20 62 rfl)
theorem dX7_row_21 : decode cX7_row 21 = .ok (.ifCond .eq 15, 3) := o_153 (bg_dX7_row_0 21 153 rfl) (bg_dX7_row_0 22 0 rfl) (bg_dX7_row_0 23 15 rfl) (by decide +kernel)
theorem dX7_row_24 : decode cX7_row 24 = .ok (.iload_n 3, 1) := o_29 (bg_dX7_row_0 24 29 rfl)
theorem dX7_row_25 : decode cX7_row 25 = .ok (.i2l, 1) := o_133 (bg_dX7_row_0 25 133 rfl)
theorem bg_dX7_row_26 : bysAt cX7_row 26 [9, 20, 0, 87, 184, 0, 62, 154, 0, 10, 42, 16, 254, 182, 0, 89, 172, 42, 180, 0, 7, 27, 4, 79, 42] := bysAt_of (by decide +kernel)
theorem dX7_row_26 : decode cX7_row 26 = .ok (.lconst 0, 1) := o_9 (bg_dX7_row_26 0 9 rfl)
theorem dX7_row_27 : decode cX7_row 27 = .ok (.ldc2_w 87, 3) := o_20 (bg_dX7_row_26 1 20 rfl) (bg_dX7_row_26 2 0 rfl) (bg_dX7_row_26 3 87 rfl)
theorem dX7_row_30 : decode cX7_row 30 = .ok (.invokestatic 62, 3) := o_184 (bg_dX7_row_26 4 184 rfl) (bg_dX7_row_26 5 0 rfl) (bg_dX7_row_26 6 62 rfl)
theorem dX7_row_33 : decode cX7_row 33 = .ok (.ifCond .ne 10, 3) := o_154 (bg_dX7_row_26 7 154 rfl) (bg_dX7_row_26 8 0 rfl) (bg_dX7_row_26 9 10 rfl) (by decide +kernel)
theorem dX7_row_36 : decode cX7_row 36 = .ok (.aload_n 0, 1) := o_42 (bg_dX7_row_26 10 42 rfl)
theorem dX7_row_37 : decode cX7_row 37 = .ok (.bipush (-2), 2) := o_16 (bg_dX7_row_26 11 16 rfl) (bg_dX7_row_26 12 254 rfl) (by decide +kernel)
theorem dX7_row_39 : decode cX7_row 39 = .ok (.invokevirtual 89, 3) := o_182 (bg_dX7_row_26 13 182 rfl) (bg_dX7_row_26 14 0 rfl) (bg_dX7_row_26 15 89 rfl)
theorem dX7_row_42 : decode cX7_row 42 = .ok (.ireturn, 1) := o_172 (bg_dX7_row_26 16 172 rfl)
theorem dX7_row_43 : decode cX7_row 43 = .ok (.aload_n 0, 1) := o_42 (bg_dX7_row_26 17 42 rfl)
theorem dX7_row_44 : decode cX7_row 44 = .ok (.getfield 7, 3) := o_180 (bg_dX7_row_26 18 180 rfl) (bg_dX7_row_26 19 0 rfl) (bg_dX7_row_26 20 7 rfl)
theorem dX7_row_47 : decode cX7_row 47 = .ok (.iload_n 1, 1) := o_27 (bg_dX7_row_26 21 27 rfl)
theorem dX7_row_48 : decode cX7_row 48 = .ok (.iconst 1, 1) := o_4 (bg_dX7_row_26 22 4 rfl)
theorem dX7_row_49 : decode cX7_row 49 = .ok (.iastore, 1) := o_79 (bg_dX7_row_26 23 79 rfl)
theorem dX7_row_50 : decode cX7_row 50 = .ok (.aload_n 0, 1) := o_42 (bg_dX7_row_26 24 42 rfl)
theorem bg_dX7_row_51 : bysAt cX7_row 51 [180, 0, 13, 27, 28, 79, 42, 180, 0, 16, 27, 29, 79, 3, 54, 4, 21, 4, 16, 40, 162, 0, 19] := bysAt_of (by decide +kernel)
theorem dX7_row_51 : decode cX7_row 51 = .ok (.getfield 13, 3) := o_180 (bg_dX7_row_51 0 180 rfl) (bg_dX7_row_51 1 0 rfl) (bg_dX7_row_51 2 13 rfl)
theorem dX7_row_54 : decode cX7_row 54 = .ok (.iload_n 1, 1) := o_27 (bg_dX7_row_51 3 27 rfl)
theorem dX7_row_55 : decode cX7_row 55 = .ok (.iload_n 2, 1) := o_28 (bg_dX7_row_51 4 28 rfl)
theorem dX7_row_56 : decode cX7_row 56 = .ok (.iastore, 1) := o_79 (bg_dX7_row_51 5 79 rfl)
theorem dX7_row_57 : decode cX7_row 57 = .ok (.aload_n 0, 1) := o_42 (bg_dX7_row_51 6 42 rfl)
theorem dX7_row_58 : decode cX7_row 58 = .ok (.getfield 16, 3) := o_180 (bg_dX7_row_51 7 180 rfl) (bg_dX7_row_51 8 0 rfl) (bg_dX7_row_51 9 16 rfl)
theorem dX7_row_61 : decode cX7_row 61 = .ok (.iload_n 1, 1) := o_27 (bg_dX7_row_51 10 27 rfl)
theorem dX7_row_62 : decode cX7_row 62 = .ok (.iload_n 3, 1) := o_29 (bg_dX7_row_51 11 29 rfl)
theorem dX7_row_63 : decode cX7_row 63 = .ok (.iastore, 1) := o_79 (bg_dX7_row_51 12 79 rfl)
theorem dX7_row_64 : decode cX7_row 64 = .ok (.iconst 0, 1) := o_3 (bg_dX7_row_51 13 3 rfl)
theorem dX7_row_65 : decode cX7_row 65 = .ok (.istore 4, 2) := o_54 (bg_dX7_row_51 14 54 rfl) (bg_dX7_row_51 15 4 rfl)
theorem dX7_row_67 : decode cX7_row 67 = .ok (.iload 4, 2) := o_21 (bg_dX7_row_51 16 21 rfl) (bg_dX7_row_51 17 4 rfl)
theorem dX7_row_69 : decode cX7_row 69 = .ok (.bipush 40, 2) := o_16 (bg_dX7_row_51 18 16 rfl) (bg_dX7_row_51 19 40 rfl) (by decide +kernel)
theorem dX7_row_71 : decode cX7_row 71 = .ok (.if_icmp .ge 19, 3) := o_162 (bg_dX7_row_51 20 162 rfl) (bg_dX7_row_51 21 0 rfl) (bg_dX7_row_51 22 19 rfl) (by decide +kernel)
theorem bg_dX7_row_74 : bysAt cX7_row 74 [42, 180, 0, 21, 27, 50, 21, 4, 9, 80, 132, 4, 1, 167, 255, 236, 4, 172] := bysAt_of (by decide +kernel)
theorem dX7_row_74 : decode cX7_row 74 = .ok (.aload_n 0, 1) := o_42 (bg_dX7_row_74 0 42 rfl)
theorem dX7_row_75 : decode cX7_row 75 = .ok (.getfield 21, 3) := o_180 (bg_dX7_row_74 1 180 rfl) (bg_dX7_row_74 2 0 rfl) (bg_dX7_row_74 3 21 rfl)
theorem dX7_row_78 : decode cX7_row 78 = .ok (.iload_n 1, 1) := o_27 (bg_dX7_row_74 4 27 rfl)
theorem dX7_row_79 : decode cX7_row 79 = .ok (.aaload, 1) := o_50 (bg_dX7_row_74 5 50 rfl)
theorem dX7_row_80 : decode cX7_row 80 = .ok (.iload 4, 2) := o_21 (bg_dX7_row_74 6 21 rfl) (bg_dX7_row_74 7 4 rfl)
theorem dX7_row_82 : decode cX7_row 82 = .ok (.lconst 0, 1) := o_9 (bg_dX7_row_74 8 9 rfl)
theorem dX7_row_83 : decode cX7_row 83 = .ok (.lastore, 1) := o_80 (bg_dX7_row_74 9 80 rfl)
theorem dX7_row_87 : decode cX7_row 87 = .ok (.goto (-20), 3) := o_167 (bg_dX7_row_74 13 167 rfl) (bg_dX7_row_74 14 255 rfl) (bg_dX7_row_74 15 236 rfl) (by decide +kernel)
theorem dX7_row_90 : decode cX7_row 90 = .ok (.iconst 1, 1) := o_4 (bg_dX7_row_74 16 4 rfl)
theorem dX7_row_91 : decode cX7_row 91 = .ok (.ireturn, 1) := o_172 (bg_dX7_row_74 17 172 rfl)
theorem bg_dX7_says_0 : bysAt cX7_says 0 [27, 133, 9, 20, 0, 83, 184, 0, 62, 153, 0, 15, 28, 133, 9, 20, 0, 100, 184, 0, 62, 154, 0, 10, 42, 16, 254] := bysAt_of (by decide +kernel)
theorem dX7_says_0 : decode cX7_says 0 = .ok (.iload_n 1, 1) := o_27 (bg_dX7_says_0 0 27 rfl)
theorem dX7_says_1 : decode cX7_says 1 = .ok (.i2l, 1) := o_133 (bg_dX7_says_0 1 133 rfl)
theorem dX7_says_2 : decode cX7_says 2 = .ok (.lconst 0, 1) := o_9 (bg_dX7_says_0 2 9 rfl)
theorem dX7_says_3 : decode cX7_says 3 = .ok (.ldc2_w 83, 3) := o_20 (bg_dX7_says_0 3 20 rfl) (bg_dX7_says_0 4 0 rfl) (bg_dX7_says_0 5 83 rfl)
theorem dX7_says_6 : decode cX7_says 6 = .ok (.invokestatic 62, 3) := o_184 (bg_dX7_says_0 6 184 rfl) (bg_dX7_says_0 7 0 rfl) (bg_dX7_says_0 8 62 rfl)
theorem dX7_says_9 : decode cX7_says 9 = .ok (.ifCond .eq 15, 3) := o_153 (bg_dX7_says_0 9 153 rfl) (bg_dX7_says_0 10 0 rfl) (bg_dX7_says_0 11 15 rfl) (by decide +kernel)
theorem dX7_says_12 : decode cX7_says 12 = .ok (.iload_n 2, 1) := o_28 (bg_dX7_says_0 12 28 rfl)
theorem dX7_says_13 : decode cX7_says 13 = .ok (.i2l, 1) := o_133 (bg_dX7_says_0 13 133 rfl)
theorem dX7_says_14 : decode cX7_says 14 = .ok (.lconst 0, 1) := o_9 (bg_dX7_says_0 14 9 rfl)
theorem dX7_says_15 : decode cX7_says 15 = .ok (.ldc2_w 100, 3) := o_20 (bg_dX7_says_0 15 20 rfl) (bg_dX7_says_0 16 0 rfl) (bg_dX7_says_0 17 100 rfl)
theorem dX7_says_18 : decode cX7_says 18 = .ok (.invokestatic 62, 3) := o_184 (bg_dX7_says_0 18 184 rfl) (bg_dX7_says_0 19 0 rfl) (bg_dX7_says_0 20 62 rfl)
theorem dX7_says_21 : decode cX7_says 21 = .ok (.ifCond .ne 10, 3) := o_154 (bg_dX7_says_0 21 154 rfl) (bg_dX7_says_0 22 0 rfl) (bg_dX7_says_0 23 10 rfl) (by decide +kernel)
theorem dX7_says_24 : decode cX7_says 24 = .ok (.aload_n 0, 1) := o_42 (bg_dX7_says_0 24 42 rfl)
theorem dX7_says_25 : decode cX7_says 25 = .ok (.bipush (-2), 2) := o_16 (bg_dX7_says_0 25 16 rfl) (bg_dX7_says_0 26 254 rfl) (by decide +kernel)
theorem bg_dX7_says_27 : bysAt cX7_says 27 [182, 0, 89, 172, 42, 180, 0, 7, 27, 46, 4, 159, 0, 33, 42, 180, 0, 7, 27, 46, 5, 160, 0, 30] := bysAt_of (by decide +kernel)
theorem dX7_says_27 : decode cX7_says 27 = .ok (.invokevirtual 89, 3) := o_182 (bg_dX7_says_27 0 182 rfl) (bg_dX7_says_27 1 0 rfl) (bg_dX7_says_27 2 89 rfl)
theorem dX7_says_30 : decode cX7_says 30 = .ok (.ireturn, 1) := o_172 (bg_dX7_says_27 3 172 rfl)
theorem dX7_says_31 : decode cX7_says 31 = .ok (.aload_n 0, 1) := o_42 (bg_dX7_says_27 4 42 rfl)
theorem dX7_says_32 : decode cX7_says 32 = .ok (.getfield 7, 3) := o_180 (bg_dX7_says_27 5 180 rfl) (bg_dX7_says_27 6 0 rfl) (bg_dX7_says_27 7 7 rfl)
theorem dX7_says_35 : decode cX7_says 35 = .ok (.iload_n 1, 1) := o_27 (bg_dX7_says_27 8 27 rfl)
theorem dX7_says_36 : decode cX7_says 36 = .ok (.iaload, 1) := o_46 (bg_dX7_says_27 9 46 rfl)
theorem dX7_says_37 : decode cX7_says 37 = .ok (.iconst 1, 1) := o_4 (bg_dX7_says_27 10 4 rfl)
theorem dX7_says_38 : decode cX7_says 38 = .ok (.if_icmp .eq 33, 3) := o_159 (bg_dX7_says_27 11 159 rfl) (bg_dX7_says_27 12 0 rfl) (bg_dX7_says_27 13 33 rfl) (by decide +kernel)
theorem dX7_says_41 : decode cX7_says 41 = .ok (.aload_n 0, 1) := o_42 (bg_dX7_says_27 14 42 rfl)
theorem dX7_says_42 : decode cX7_says 42 = .ok (.getfield 7, 3) := o_180 (bg_dX7_says_27 15 180 rfl) (bg_dX7_says_27 16 0 rfl) (bg_dX7_says_27 17 7 rfl)
theorem dX7_says_45 : decode cX7_says 45 = .ok (.iload_n 1, 1) := o_27 (bg_dX7_says_27 18 27 rfl)
theorem dX7_says_46 : decode cX7_says 46 = .ok (.iaload, 1) := o_46 (bg_dX7_says_27 19 46 rfl)
theorem dX7_says_47 : decode cX7_says 47 = .ok (.iconst 2, 1) := o_5 (bg_dX7_says_27 20 5 rfl)
theorem dX7_says_48 : decode cX7_says 48 = .ok (.if_icmp .ne 30, 3) := o_160 (bg_dX7_says_27 21 160 rfl) (bg_dX7_says_27 22 0 rfl) (bg_dX7_says_27 23 30 rfl) (by decide +kernel)
theorem bg_dX7_says_51 : bysAt cX7_says 51 [42, 180, 0, 42, 42, 180, 0, 28, 27, 46, 50, 4, 46, 28, 184, 0, 102, 154, 0, 10, 42, 16, 253] := bysAt_of (by decide +kernel)
theorem dX7_says_51 : decode cX7_says 51 = .ok (.aload_n 0, 1) := o_42 (bg_dX7_says_51 0 42 rfl)
theorem dX7_says_52 : decode cX7_says 52 = .ok (.getfield 42, 3) := o_180 (bg_dX7_says_51 1 180 rfl) (bg_dX7_says_51 2 0 rfl) (bg_dX7_says_51 3 42 rfl)
theorem dX7_says_55 : decode cX7_says 55 = .ok (.aload_n 0, 1) := o_42 (bg_dX7_says_51 4 42 rfl)
theorem dX7_says_56 : decode cX7_says 56 = .ok (.getfield 28, 3) := o_180 (bg_dX7_says_51 5 180 rfl) (bg_dX7_says_51 6 0 rfl) (bg_dX7_says_51 7 28 rfl)
theorem dX7_says_59 : decode cX7_says 59 = .ok (.iload_n 1, 1) := o_27 (bg_dX7_says_51 8 27 rfl)
theorem dX7_says_60 : decode cX7_says 60 = .ok (.iaload, 1) := o_46 (bg_dX7_says_51 9 46 rfl)
theorem dX7_says_61 : decode cX7_says 61 = .ok (.aaload, 1) := o_50 (bg_dX7_says_51 10 50 rfl)
theorem dX7_says_62 : decode cX7_says 62 = .ok (.iconst 1, 1) := o_4 (bg_dX7_says_51 11 4 rfl)
theorem dX7_says_63 : decode cX7_says 63 = .ok (.iaload, 1) := o_46 (bg_dX7_says_51 12 46 rfl)
theorem dX7_says_64 : decode cX7_says 64 = .ok (.iload_n 2, 1) := o_28 (bg_dX7_says_51 13 28 rfl)
theorem dX7_says_65 : decode cX7_says 65 = .ok (.invokestatic 102, 3) := o_184 (bg_dX7_says_51 14 184 rfl) (bg_dX7_says_51 15 0 rfl) (bg_dX7_says_51 16 102 rfl)
theorem dX7_says_68 : decode cX7_says 68 = .ok (.ifCond .ne 10, 3) := o_154 (bg_dX7_says_51 17 154 rfl) (bg_dX7_says_51 18 0 rfl) (bg_dX7_says_51 19 10 rfl) (by decide +kernel)
theorem dX7_says_71 : decode cX7_says 71 = .ok (.aload_n 0, 1) := o_42 (bg_dX7_says_51 20 42 rfl)
theorem dX7_says_72 : decode cX7_says 72 = .ok (.bipush (-3), 2) := o_16 (bg_dX7_says_51 21 16 rfl) (bg_dX7_says_51 22 253 rfl) (by decide +kernel)
theorem bg_dX7_says_74 : bysAt cX7_says 74 [182, 0, 89, 172, 42, 180, 0, 7, 27, 46, 154, 0, 10, 42, 16, 252, 182, 0, 89, 172, 42, 180, 0, 28, 27] := bysAt_of (by decide +kernel)
theorem dX7_says_74 : decode cX7_says 74 = .ok (.invokevirtual 89, 3) := o_182 (bg_dX7_says_74 0 182 rfl) (bg_dX7_says_74 1 0 rfl) (bg_dX7_says_74 2 89 rfl)
theorem dX7_says_77 : decode cX7_says 77 = .ok (.ireturn, 1) := o_172 (bg_dX7_says_74 3 172 rfl)
theorem dX7_says_78 : decode cX7_says 78 = .ok (.aload_n 0, 1) := o_42 (bg_dX7_says_74 4 42 rfl)
theorem dX7_says_79 : decode cX7_says 79 = .ok (.getfield 7, 3) := o_180 (bg_dX7_says_74 5 180 rfl) (bg_dX7_says_74 6 0 rfl) (bg_dX7_says_74 7 7 rfl)
theorem dX7_says_82 : decode cX7_says 82 = .ok (.iload_n 1, 1) := o_27 (bg_dX7_says_74 8 27 rfl)
theorem dX7_says_83 : decode cX7_says 83 = .ok (.iaload, 1) := o_46 (bg_dX7_says_74 9 46 rfl)
theorem dX7_says_84 : decode cX7_says 84 = .ok (.ifCond .ne 10, 3) := o_154 (bg_dX7_says_74 10 154 rfl) (bg_dX7_says_74 11 0 rfl) (bg_dX7_says_74 12 10 rfl) (by decide +kernel)
theorem dX7_says_87 : decode cX7_says 87 = .ok (.aload_n 0, 1) := o_42 (bg_dX7_says_74 13 42 rfl)
theorem dX7_says_88 : decode cX7_says 88 = .ok (.bipush (-4), 2) := o_16 (bg_dX7_says_74 14 16 rfl) (bg_dX7_says_74 15 252 rfl) (by decide +kernel)
theorem dX7_says_90 : decode cX7_says 90 = .ok (.invokevirtual 89, 3) := o_182 (bg_dX7_says_74 16 182 rfl) (bg_dX7_says_74 17 0 rfl) (bg_dX7_says_74 18 89 rfl)
theorem dX7_says_93 : decode cX7_says 93 = .ok (.ireturn, 1) := o_172 (bg_dX7_says_74 19 172 rfl)
theorem dX7_says_94 : decode cX7_says 94 = .ok (.aload_n 0, 1) := o_42 (bg_dX7_says_74 20 42 rfl)
theorem dX7_says_95 : decode cX7_says 95 = .ok (.getfield 28, 3) := o_180 (bg_dX7_says_74 21 180 rfl) (bg_dX7_says_74 22 0 rfl) (bg_dX7_says_74 23 28 rfl)
theorem dX7_says_98 : decode cX7_says 98 = .ok (.iload_n 1, 1) := o_27 (bg_dX7_says_74 24 27 rfl)
theorem bg_dX7_says_99 : bysAt cX7_says 99 [46, 62, 28] := bysAt_of (by decide +kernel)
theorem dX7_says_99 : decode cX7_says 99 = .ok (.iaload, 1) := o_46 (bg_dX7_says_99 0 46 rfl)
theorem dX7_says_100 : decode cX7_says 100 = .ok (.istore_n 3, 1) := o_62 (bg_dX7_says_99 1 62 rfl)
theorem dX7_says_101 : decode cX7_says 101 = .ok (.iload_n 2, 1) := o_28 (bg_dX7_says_99 2 28 rfl)
theorem bg_dX7_says_136 : bysAt cX7_says 136 [42, 180, 0, 42, 29, 50, 3, 46, 172, 42, 29, 182, 0, 106, 172, 42, 180, 0, 42, 29] := bysAt_of (by decide +kernel)
theorem dX7_says_136 : decode cX7_says 136 = .ok (.aload_n 0, 1) := o_42 (bg_dX7_says_136 0 42 rfl)
theorem dX7_says_137 : decode cX7_says 137 = .ok (.getfield 42, 3) := o_180 (bg_dX7_says_136 1 180 rfl) (bg_dX7_says_136 2 0 rfl) (bg_dX7_says_136 3 42 rfl)
theorem dX7_says_140 : decode cX7_says 140 = .ok (.iload_n 3, 1) := o_29 (bg_dX7_says_136 4 29 rfl)
theorem dX7_says_141 : decode cX7_says 141 = .ok (.aaload, 1) := o_50 (bg_dX7_says_136 5 50 rfl)
theorem dX7_says_142 : decode cX7_says 142 = .ok (.iconst 0, 1) := o_3 (bg_dX7_says_136 6 3 rfl)
theorem dX7_says_143 : decode cX7_says 143 = .ok (.iaload, 1) := o_46 (bg_dX7_says_136 7 46 rfl)
theorem dX7_says_144 : decode cX7_says 144 = .ok (.ireturn, 1) := o_172 (bg_dX7_says_136 8 172 rfl)
theorem dX7_says_145 : decode cX7_says 145 = .ok (.aload_n 0, 1) := o_42 (bg_dX7_says_136 9 42 rfl)
theorem dX7_says_146 : decode cX7_says 146 = .ok (.iload_n 3, 1) := o_29 (bg_dX7_says_136 10 29 rfl)
theorem dX7_says_147 : decode cX7_says 147 = .ok (.invokevirtual 106, 3) := o_182 (bg_dX7_says_136 11 182 rfl) (bg_dX7_says_136 12 0 rfl) (bg_dX7_says_136 13 106 rfl)
theorem dX7_says_150 : decode cX7_says 150 = .ok (.ireturn, 1) := o_172 (bg_dX7_says_136 14 172 rfl)
theorem dX7_says_151 : decode cX7_says 151 = .ok (.aload_n 0, 1) := o_42 (bg_dX7_says_136 15 42 rfl)
theorem dX7_says_152 : decode cX7_says 152 = .ok (.getfield 42, 3) := o_180 (bg_dX7_says_136 16 180 rfl) (bg_dX7_says_136 17 0 rfl) (bg_dX7_says_136 18 42 rfl)
theorem dX7_says_155 : decode cX7_says 155 = .ok (.iload_n 3, 1) := o_29 (bg_dX7_says_136 19 29 rfl)
theorem bg_dX7_says_156 : bysAt cX7_says 156 [50, 5, 46, 172, 42, 180, 0, 42, 29, 50, 16, 9, 46, 172, 42, 29, 42] := bysAt_of (by decide +kernel)
theorem dX7_says_156 : decode cX7_says 156 = .ok (.aaload, 1) := o_50 (bg_dX7_says_156 0 50 rfl)
theorem dX7_says_157 : decode cX7_says 157 = .ok (.iconst 2, 1) := o_5 (bg_dX7_says_156 1 5 rfl)
theorem dX7_says_158 : decode cX7_says 158 = .ok (.iaload, 1) := o_46 (bg_dX7_says_156 2 46 rfl)
theorem dX7_says_159 : decode cX7_says 159 = .ok (.ireturn, 1) := o_172 (bg_dX7_says_156 3 172 rfl)
theorem dX7_says_160 : decode cX7_says 160 = .ok (.aload_n 0, 1) := o_42 (bg_dX7_says_156 4 42 rfl)
theorem dX7_says_161 : decode cX7_says 161 = .ok (.getfield 42, 3) := o_180 (bg_dX7_says_156 5 180 rfl) (bg_dX7_says_156 6 0 rfl) (bg_dX7_says_156 7 42 rfl)
theorem dX7_says_164 : decode cX7_says 164 = .ok (.iload_n 3, 1) := o_29 (bg_dX7_says_156 8 29 rfl)
theorem dX7_says_165 : decode cX7_says 165 = .ok (.aaload, 1) := o_50 (bg_dX7_says_156 9 50 rfl)
theorem dX7_says_166 : decode cX7_says 166 = .ok (.bipush 9, 2) := o_16 (bg_dX7_says_156 10 16 rfl) (bg_dX7_says_156 11 9 rfl) (by decide +kernel)
theorem dX7_says_168 : decode cX7_says 168 = .ok (.iaload, 1) := o_46 (bg_dX7_says_156 12 46 rfl)
theorem dX7_says_169 : decode cX7_says 169 = .ok (.ireturn, 1) := o_172 (bg_dX7_says_156 13 172 rfl)
theorem dX7_says_170 : decode cX7_says 170 = .ok (.aload_n 0, 1) := o_42 (bg_dX7_says_156 14 42 rfl)
theorem dX7_says_171 : decode cX7_says 171 = .ok (.iload_n 3, 1) := o_29 (bg_dX7_says_156 15 29 rfl)
theorem dX7_says_172 : decode cX7_says 172 = .ok (.aload_n 0, 1) := o_42 (bg_dX7_says_156 16 42 rfl)
theorem bg_dX7_says_173 : bysAt cX7_says 173 [180, 0, 42, 29, 50, 16, 7, 46, 4, 160, 0, 7, 4, 167, 0, 4, 3, 182, 0, 109, 172] := bysAt_of (by decide +kernel)
theorem dX7_says_173 : decode cX7_says 173 = .ok (.getfield 42, 3) := o_180 (bg_dX7_says_173 0 180 rfl) (bg_dX7_says_173 1 0 rfl) (bg_dX7_says_173 2 42 rfl)
theorem dX7_says_176 : decode cX7_says 176 = .ok (.iload_n 3, 1) := o_29 (bg_dX7_says_173 3 29 rfl)
theorem dX7_says_177 : decode cX7_says 177 = .ok (.aaload, 1) := o_50 (bg_dX7_says_173 4 50 rfl)
theorem dX7_says_178 : decode cX7_says 178 = .ok (.bipush 7, 2) := o_16 (bg_dX7_says_173 5 16 rfl) (bg_dX7_says_173 6 7 rfl) (by decide +kernel)
theorem dX7_says_180 : decode cX7_says 180 = .ok (.iaload, 1) := o_46 (bg_dX7_says_173 7 46 rfl)
theorem dX7_says_181 : decode cX7_says 181 = .ok (.iconst 1, 1) := o_4 (bg_dX7_says_173 8 4 rfl)
theorem dX7_says_182 : decode cX7_says 182 = .ok (.if_icmp .ne 7, 3) := o_160 (bg_dX7_says_173 9 160 rfl) (bg_dX7_says_173 10 0 rfl) (bg_dX7_says_173 11 7 rfl) (by decide +kernel)
theorem dX7_says_185 : decode cX7_says 185 = .ok (.iconst 1, 1) := o_4 (bg_dX7_says_173 12 4 rfl)
theorem dX7_says_186 : decode cX7_says 186 = .ok (.goto 4, 3) := o_167 (bg_dX7_says_173 13 167 rfl) (bg_dX7_says_173 14 0 rfl) (bg_dX7_says_173 15 4 rfl) (by decide +kernel)
theorem dX7_says_189 : decode cX7_says 189 = .ok (.iconst 0, 1) := o_3 (bg_dX7_says_173 16 3 rfl)
theorem dX7_says_190 : decode cX7_says 190 = .ok (.invokevirtual 109, 3) := o_182 (bg_dX7_says_173 17 182 rfl) (bg_dX7_says_173 18 0 rfl) (bg_dX7_says_173 19 109 rfl)
theorem dX7_says_193 : decode cX7_says 193 = .ok (.ireturn, 1) := o_172 (bg_dX7_says_173 20 172 rfl)
theorem bg_dX7_set_0 : bysAt cX7_set 0 [27, 133, 9, 20, 0, 83, 184, 0, 62, 154, 0, 10, 42, 16, 254, 182, 0, 89, 172, 42, 180, 0, 7, 27, 46] := bysAt_of (by decide +kernel)
theorem dX7_set_0 : decode cX7_set 0 = .ok (.iload_n 1, 1) := o_27 (bg_dX7_set_0 0 27 rfl)
theorem dX7_set_1 : decode cX7_set 1 = .ok (.i2l, 1) := o_133 (bg_dX7_set_0 1 133 rfl)
theorem dX7_set_2 : decode cX7_set 2 = .ok (.lconst 0, 1) := o_9 (bg_dX7_set_0 2 9 rfl)
theorem dX7_set_3 : decode cX7_set 3 = .ok (.ldc2_w 83, 3) := o_20 (bg_dX7_set_0 3 20 rfl) (bg_dX7_set_0 4 0 rfl) (bg_dX7_set_0 5 83 rfl)
theorem dX7_set_6 : decode cX7_set 6 = .ok (.invokestatic 62, 3) := o_184 (bg_dX7_set_0 6 184 rfl) (bg_dX7_set_0 7 0 rfl) (bg_dX7_set_0 8 62 rfl)
theorem dX7_set_9 : decode cX7_set 9 = .ok (.ifCond .ne 10, 3) := o_154 (bg_dX7_set_0 9 154 rfl) (bg_dX7_set_0 10 0 rfl) (bg_dX7_set_0 11 10 rfl) (by decide +kernel)
theorem dX7_set_12 : decode cX7_set 12 = .ok (.aload_n 0, 1) := o_42 (bg_dX7_set_0 12 42 rfl)
theorem dX7_set_13 : decode cX7_set 13 = .ok (.bipush (-2), 2) := o_16 (bg_dX7_set_0 13 16 rfl) (bg_dX7_set_0 14 254 rfl) (by decide +kernel)
theorem dX7_set_15 : decode cX7_set 15 = .ok (.invokevirtual 89, 3) := o_182 (bg_dX7_set_0 15 182 rfl) (bg_dX7_set_0 16 0 rfl) (bg_dX7_set_0 17 89 rfl)
theorem dX7_set_18 : decode cX7_set 18 = .ok (.ireturn, 1) := o_172 (bg_dX7_set_0 18 172 rfl)
theorem dX7_set_19 : decode cX7_set 19 = .ok (.aload_n 0, 1) := o_42 (bg_dX7_set_0 19 42 rfl)
theorem dX7_set_20 : decode cX7_set 20 = .ok (.getfield 7, 3) := o_180 (bg_dX7_set_0 20 180 rfl) (bg_dX7_set_0 21 0 rfl) (bg_dX7_set_0 22 7 rfl)
theorem dX7_set_23 : decode cX7_set 23 = .ok (.iload_n 1, 1) := o_27 (bg_dX7_set_0 23 27 rfl)
theorem dX7_set_24 : decode cX7_set 24 = .ok (.iaload, 1) := o_46 (bg_dX7_set_0 24 46 rfl)
theorem bg_dX7_set_25 : bysAt cX7_set 25 [5, 160, 0, 10, 42, 16, 253, 182, 0, 89, 172, 42, 180, 0, 7, 27, 46, 154, 0, 10, 42, 16, 252, 182, 0, 89] := bysAt_of (by decide +kernel)
theorem dX7_set_25 : decode cX7_set 25 = .ok (.iconst 2, 1) := o_5 (bg_dX7_set_25 0 5 rfl)
theorem dX7_set_26 : decode cX7_set 26 = .ok (.if_icmp .ne 10, 3) := o_160 (bg_dX7_set_25 1 160 rfl) (bg_dX7_set_25 2 0 rfl) (bg_dX7_set_25 3 10 rfl) (by decide +kernel)
theorem dX7_set_29 : decode cX7_set 29 = .ok (.aload_n 0, 1) := o_42 (bg_dX7_set_25 4 42 rfl)
theorem dX7_set_30 : decode cX7_set 30 = .ok (.bipush (-3), 2) := o_16 (bg_dX7_set_25 5 16 rfl) (bg_dX7_set_25 6 253 rfl) (by decide +kernel)
theorem dX7_set_32 : decode cX7_set 32 = .ok (.invokevirtual 89, 3) := o_182 (bg_dX7_set_25 7 182 rfl) (bg_dX7_set_25 8 0 rfl) (bg_dX7_set_25 9 89 rfl)
theorem dX7_set_35 : decode cX7_set 35 = .ok (.ireturn, 1) := o_172 (bg_dX7_set_25 10 172 rfl)
theorem dX7_set_36 : decode cX7_set 36 = .ok (.aload_n 0, 1) := o_42 (bg_dX7_set_25 11 42 rfl)
theorem dX7_set_37 : decode cX7_set 37 = .ok (.getfield 7, 3) := o_180 (bg_dX7_set_25 12 180 rfl) (bg_dX7_set_25 13 0 rfl) (bg_dX7_set_25 14 7 rfl)
theorem dX7_set_40 : decode cX7_set 40 = .ok (.iload_n 1, 1) := o_27 (bg_dX7_set_25 15 27 rfl)
theorem dX7_set_41 : decode cX7_set 41 = .ok (.iaload, 1) := o_46 (bg_dX7_set_25 16 46 rfl)
theorem dX7_set_42 : decode cX7_set 42 = .ok (.ifCond .ne 10, 3) := o_154 (bg_dX7_set_25 17 154 rfl) (bg_dX7_set_25 18 0 rfl) (bg_dX7_set_25 19 10 rfl) (by decide +kernel)
theorem dX7_set_45 : decode cX7_set 45 = .ok (.aload_n 0, 1) := o_42 (bg_dX7_set_25 20 42 rfl)
theorem dX7_set_46 : decode cX7_set 46 = .ok (.bipush (-4), 2) := o_16 (bg_dX7_set_25 21 16 rfl) (bg_dX7_set_25 22 252 rfl) (by decide +kernel)
theorem dX7_set_48 : decode cX7_set 48 = .ok (.invokevirtual 89, 3) := o_182 (bg_dX7_set_25 23 182 rfl) (bg_dX7_set_25 24 0 rfl) (bg_dX7_set_25 25 89 rfl)
theorem bg_dX7_set_51 : bysAt cX7_set 51 [172, 28, 133, 9, 42, 180, 0, 16, 27, 46, 4, 100, 133, 184, 0, 62, 154, 0, 10, 42] := bysAt_of (by decide +kernel)
theorem dX7_set_51 : decode cX7_set 51 = .ok (.ireturn, 1) := o_172 (bg_dX7_set_51 0 172 rfl)
theorem dX7_set_52 : decode cX7_set 52 = .ok (.iload_n 2, 1) := o_28 (bg_dX7_set_51 1 28 rfl)
theorem dX7_set_53 : decode cX7_set 53 = .ok (.i2l, 1) := o_133 (bg_dX7_set_51 2 133 rfl)
theorem dX7_set_54 : decode cX7_set 54 = .ok (.lconst 0, 1) := o_9 (bg_dX7_set_51 3 9 rfl)
theorem dX7_set_55 : decode cX7_set 55 = .ok (.aload_n 0, 1) := o_42 (bg_dX7_set_51 4 42 rfl)
theorem dX7_set_56 : decode cX7_set 56 = .ok (.getfield 16, 3) := o_180 (bg_dX7_set_51 5 180 rfl) (bg_dX7_set_51 6 0 rfl) (bg_dX7_set_51 7 16 rfl)
theorem dX7_set_59 : decode cX7_set 59 = .ok (.iload_n 1, 1) := o_27 (bg_dX7_set_51 8 27 rfl)
theorem dX7_set_60 : decode cX7_set 60 = .ok (.iaload, 1) := o_46 (bg_dX7_set_51 9 46 rfl)
theorem dX7_set_61 : decode cX7_set 61 = .ok (.iconst 1, 1) := o_4 (bg_dX7_set_51 10 4 rfl)
theorem dX7_set_62 : decode cX7_set 62 = .ok (.isub, 1) := o_100 (bg_dX7_set_51 11 100 rfl)
theorem dX7_set_63 : decode cX7_set 63 = .ok (.i2l, 1) := o_133 (bg_dX7_set_51 12 133 rfl)
theorem dX7_set_64 : decode cX7_set 64 = .ok (.invokestatic 62, 3) := o_184 (bg_dX7_set_51 13 184 rfl) (bg_dX7_set_51 14 0 rfl) (bg_dX7_set_51 15 62 rfl)
theorem dX7_set_67 : decode cX7_set 67 = .ok (.ifCond .ne 10, 3) := o_154 (bg_dX7_set_51 16 154 rfl) (bg_dX7_set_51 17 0 rfl) (bg_dX7_set_51 18 10 rfl) (by decide +kernel)
theorem dX7_set_70 : decode cX7_set 70 = .ok (.aload_n 0, 1) := o_42 (bg_dX7_set_51 19 42 rfl)
theorem bg_dX7_set_71 : bysAt cX7_set 71 [16, 254, 182, 0, 89, 172, 42, 180, 0, 21, 27, 50, 28, 42, 180, 0, 13, 27, 46, 33, 184, 0, 93] := bysAt_of (by decide +kernel)
theorem dX7_set_71 : decode cX7_set 71 = .ok (.bipush (-2), 2) := o_16 (bg_dX7_set_71 0 16 rfl) (bg_dX7_set_71 1 254 rfl) (by decide +kernel)
theorem dX7_set_73 : decode cX7_set 73 = .ok (.invokevirtual 89, 3) := o_182 (bg_dX7_set_71 2 182 rfl) (bg_dX7_set_71 3 0 rfl) (bg_dX7_set_71 4 89 rfl)
theorem dX7_set_76 : decode cX7_set 76 = .ok (.ireturn, 1) := o_172 (bg_dX7_set_71 5 172 rfl)
theorem dX7_set_77 : decode cX7_set 77 = .ok (.aload_n 0, 1) := o_42 (bg_dX7_set_71 6 42 rfl)
theorem dX7_set_78 : decode cX7_set 78 = .ok (.getfield 21, 3) := o_180 (bg_dX7_set_71 7 180 rfl) (bg_dX7_set_71 8 0 rfl) (bg_dX7_set_71 9 21 rfl)
theorem dX7_set_81 : decode cX7_set 81 = .ok (.iload_n 1, 1) := o_27 (bg_dX7_set_71 10 27 rfl)
theorem dX7_set_82 : decode cX7_set 82 = .ok (.aaload, 1) := o_50 (bg_dX7_set_71 11 50 rfl)
theorem dX7_set_83 : decode cX7_set 83 = .ok (.iload_n 2, 1) := o_28 (bg_dX7_set_71 12 28 rfl)
theorem dX7_set_84 : decode cX7_set 84 = .ok (.aload_n 0, 1) := o_42 (bg_dX7_set_71 13 42 rfl)
theorem dX7_set_85 : decode cX7_set 85 = .ok (.getfield 13, 3) := o_180 (bg_dX7_set_71 14 180 rfl) (bg_dX7_set_71 15 0 rfl) (bg_dX7_set_71 16 13 rfl)
theorem dX7_set_88 : decode cX7_set 88 = .ok (.iload_n 1, 1) := o_27 (bg_dX7_set_71 17 27 rfl)
theorem dX7_set_89 : decode cX7_set 89 = .ok (.iaload, 1) := o_46 (bg_dX7_set_71 18 46 rfl)
theorem dX7_set_90 : decode cX7_set 90 = .ok (.lload_n 3, 1) := o_33 (bg_dX7_set_71 19 33 rfl)
theorem dX7_set_91 : decode cX7_set 91 = .ok (.invokestatic 93, 3) := o_184 (bg_dX7_set_71 20 184 rfl) (bg_dX7_set_71 21 0 rfl) (bg_dX7_set_71 22 93 rfl)
theorem bg_dX7_set_94 : bysAt cX7_set 94 [80, 4, 172] := bysAt_of (by decide +kernel)
theorem dX7_set_94 : decode cX7_set 94 = .ok (.lastore, 1) := o_80 (bg_dX7_set_94 0 80 rfl)
theorem dX7_set_95 : decode cX7_set 95 = .ok (.iconst 1, 1) := o_4 (bg_dX7_set_94 1 4 rfl)
theorem dX7_set_96 : decode cX7_set 96 = .ok (.ireturn, 1) := o_172 (bg_dX7_set_94 2 172 rfl)
theorem bg_dX7_show_0 : bysAt cX7_show 0 [27, 133, 9, 20, 0, 83, 184, 0, 62, 153, 0, 16, 28, 2, 159, 0, 18, 42, 28, 182, 0, 97, 154, 0, 10, 42] := bysAt_of (by decide +kernel)
theorem dX7_show_0 : decode cX7_show 0 = .ok (.iload_n 1, 1) := o_27 (bg_dX7_show_0 0 27 rfl)
theorem dX7_show_1 : decode cX7_show 1 = .ok (.i2l, 1) := o_133 (bg_dX7_show_0 1 133 rfl)
theorem dX7_show_2 : decode cX7_show 2 = .ok (.lconst 0, 1) := o_9 (bg_dX7_show_0 2 9 rfl)
theorem dX7_show_3 : decode cX7_show 3 = .ok (.ldc2_w 83, 3) := o_20 (bg_dX7_show_0 3 20 rfl) (bg_dX7_show_0 4 0 rfl) (bg_dX7_show_0 5 83 rfl)
theorem dX7_show_6 : decode cX7_show 6 = .ok (.invokestatic 62, 3) := o_184 (bg_dX7_show_0 6 184 rfl) (bg_dX7_show_0 7 0 rfl) (bg_dX7_show_0 8 62 rfl)
theorem dX7_show_9 : decode cX7_show 9 = .ok (.ifCond .eq 16, 3) := o_153 (bg_dX7_show_0 9 153 rfl) (bg_dX7_show_0 10 0 rfl) (bg_dX7_show_0 11 16 rfl) (by decide +kernel)
theorem dX7_show_12 : decode cX7_show 12 = .ok (.iload_n 2, 1) := o_28 (bg_dX7_show_0 12 28 rfl)
theorem dX7_show_13 : decode cX7_show 13 = .ok (.iconst (-1), 1) := o_2 (bg_dX7_show_0 13 2 rfl)
theorem dX7_show_14 : decode cX7_show 14 = .ok (.if_icmp .eq 18, 3) := o_159 (bg_dX7_show_0 14 159 rfl) (bg_dX7_show_0 15 0 rfl) (bg_dX7_show_0 16 18 rfl) (by decide +kernel)
theorem dX7_show_17 : decode cX7_show 17 = .ok (.aload_n 0, 1) := o_42 (bg_dX7_show_0 17 42 rfl)
theorem dX7_show_18 : decode cX7_show 18 = .ok (.iload_n 2, 1) := o_28 (bg_dX7_show_0 18 28 rfl)
theorem dX7_show_19 : decode cX7_show 19 = .ok (.invokevirtual 97, 3) := o_182 (bg_dX7_show_0 19 182 rfl) (bg_dX7_show_0 20 0 rfl) (bg_dX7_show_0 21 97 rfl)
theorem dX7_show_22 : decode cX7_show 22 = .ok (.ifCond .ne 10, 3) := o_154 (bg_dX7_show_0 22 154 rfl) (bg_dX7_show_0 23 0 rfl) (bg_dX7_show_0 24 10 rfl) (by decide +kernel)
theorem dX7_show_25 : decode cX7_show 25 = .ok (.aload_n 0, 1) := o_42 (bg_dX7_show_0 25 42 rfl)
theorem bg_dX7_show_26 : bysAt cX7_show 26 [16, 254, 182, 0, 89, 172, 42, 180, 0, 7, 27, 28, 2, 160, 0, 7, 3, 167, 0, 4, 5, 79, 42] := bysAt_of (by decide +kernel)
theorem dX7_show_26 : decode cX7_show 26 = .ok (.bipush (-2), 2) := o_16 (bg_dX7_show_26 0 16 rfl) (bg_dX7_show_26 1 254 rfl) (by decide +kernel)
theorem dX7_show_28 : decode cX7_show 28 = .ok (.invokevirtual 89, 3) := o_182 (bg_dX7_show_26 2 182 rfl) (bg_dX7_show_26 3 0 rfl) (bg_dX7_show_26 4 89 rfl)
theorem dX7_show_31 : decode cX7_show 31 = .ok (.ireturn, 1) := o_172 (bg_dX7_show_26 5 172 rfl)
theorem dX7_show_32 : decode cX7_show 32 = .ok (.aload_n 0, 1) := o_42 (bg_dX7_show_26 6 42 rfl)
theorem dX7_show_33 : decode cX7_show 33 = .ok (.getfield 7, 3) := o_180 (bg_dX7_show_26 7 180 rfl) (bg_dX7_show_26 8 0 rfl) (bg_dX7_show_26 9 7 rfl)
theorem dX7_show_36 : decode cX7_show 36 = .ok (.iload_n 1, 1) := o_27 (bg_dX7_show_26 10 27 rfl)
theorem dX7_show_37 : decode cX7_show 37 = .ok (.iload_n 2, 1) := o_28 (bg_dX7_show_26 11 28 rfl)
theorem dX7_show_38 : decode cX7_show 38 = .ok (.iconst (-1), 1) := o_2 (bg_dX7_show_26 12 2 rfl)
theorem dX7_show_39 : decode cX7_show 39 = .ok (.if_icmp .ne 7, 3) := o_160 (bg_dX7_show_26 13 160 rfl) (bg_dX7_show_26 14 0 rfl) (bg_dX7_show_26 15 7 rfl) (by decide +kernel)
theorem dX7_show_42 : decode cX7_show 42 = .ok (.iconst 0, 1) := o_3 (bg_dX7_show_26 16 3 rfl)
theorem dX7_show_43 : decode cX7_show 43 = .ok (.goto 4, 3) := o_167 (bg_dX7_show_26 17 167 rfl) (bg_dX7_show_26 18 0 rfl) (bg_dX7_show_26 19 4 rfl) (by decide +kernel)
theorem dX7_show_46 : decode cX7_show 46 = .ok (.iconst 2, 1) := o_5 (bg_dX7_show_26 20 5 rfl)
theorem dX7_show_47 : decode cX7_show 47 = .ok (.iastore, 1) := o_79 (bg_dX7_show_26 21 79 rfl)
theorem dX7_show_48 : decode cX7_show 48 = .ok (.aload_n 0, 1) := o_42 (bg_dX7_show_26 22 42 rfl)
theorem bg_dX7_show_49 : bysAt cX7_show 49 [180, 0, 28, 27, 28, 79, 4, 172] := bysAt_of (by decide +kernel)
theorem dX7_show_49 : decode cX7_show 49 = .ok (.getfield 28, 3) := o_180 (bg_dX7_show_49 0 180 rfl) (bg_dX7_show_49 1 0 rfl) (bg_dX7_show_49 2 28 rfl)
theorem dX7_show_52 : decode cX7_show 52 = .ok (.iload_n 1, 1) := o_27 (bg_dX7_show_49 3 27 rfl)
theorem dX7_show_53 : decode cX7_show 53 = .ok (.iload_n 2, 1) := o_28 (bg_dX7_show_49 4 28 rfl)
theorem dX7_show_54 : decode cX7_show 54 = .ok (.iastore, 1) := o_79 (bg_dX7_show_49 5 79 rfl)
theorem dX7_show_55 : decode cX7_show 55 = .ok (.iconst 1, 1) := o_4 (bg_dX7_show_49 6 4 rfl)
theorem dX7_show_56 : decode cX7_show 56 = .ok (.ireturn, 1) := o_172 (bg_dX7_show_49 7 172 rfl)
theorem bg_dX7_shut_0 : bysAt cX7_shut 0 [42, 27, 182, 0, 126, 154, 0, 10, 42, 16, 254, 182, 0, 89, 172, 42, 180, 0, 39, 27, 50, 16, 6, 46] := bysAt_of (by decide +kernel)
theorem dX7_shut_0 : decode cX7_shut 0 = .ok (.aload_n 0, 1) := o_42 (bg_dX7_shut_0 0 42 rfl)
theorem dX7_shut_1 : decode cX7_shut 1 = .ok (.iload_n 1, 1) := o_27 (bg_dX7_shut_0 1 27 rfl)
theorem dX7_shut_2 : decode cX7_shut 2 = .ok (.invokevirtual 126, 3) := o_182 (bg_dX7_shut_0 2 182 rfl) (bg_dX7_shut_0 3 0 rfl) (bg_dX7_shut_0 4 126 rfl)
theorem dX7_shut_5 : decode cX7_shut 5 = .ok (.ifCond .ne 10, 3) := o_154 (bg_dX7_shut_0 5 154 rfl) (bg_dX7_shut_0 6 0 rfl) (bg_dX7_shut_0 7 10 rfl) (by decide +kernel)
theorem dX7_shut_8 : decode cX7_shut 8 = .ok (.aload_n 0, 1) := o_42 (bg_dX7_shut_0 8 42 rfl)
theorem dX7_shut_9 : decode cX7_shut 9 = .ok (.bipush (-2), 2) := o_16 (bg_dX7_shut_0 9 16 rfl) (bg_dX7_shut_0 10 254 rfl) (by decide +kernel)
theorem dX7_shut_11 : decode cX7_shut 11 = .ok (.invokevirtual 89, 3) := o_182 (bg_dX7_shut_0 11 182 rfl) (bg_dX7_shut_0 12 0 rfl) (bg_dX7_shut_0 13 89 rfl)
theorem dX7_shut_14 : decode cX7_shut 14 = .ok (.ireturn, 1) := o_172 (bg_dX7_shut_0 14 172 rfl)
theorem dX7_shut_15 : decode cX7_shut 15 = .ok (.aload_n 0, 1) := o_42 (bg_dX7_shut_0 15 42 rfl)
theorem dX7_shut_16 : decode cX7_shut 16 = .ok (.getfield 39, 3) := o_180 (bg_dX7_shut_0 16 180 rfl) (bg_dX7_shut_0 17 0 rfl) (bg_dX7_shut_0 18 39 rfl)
theorem dX7_shut_19 : decode cX7_shut 19 = .ok (.iload_n 1, 1) := o_27 (bg_dX7_shut_0 19 27 rfl)
theorem dX7_shut_20 : decode cX7_shut 20 = .ok (.aaload, 1) := o_50 (bg_dX7_shut_0 20 50 rfl)
theorem dX7_shut_21 : decode cX7_shut 21 = .ok (.bipush 6, 2) := o_16 (bg_dX7_shut_0 21 16 rfl) (bg_dX7_shut_0 22 6 rfl) (by decide +kernel)
theorem dX7_shut_23 : decode cX7_shut 23 = .ok (.iaload, 1) := o_46 (bg_dX7_shut_0 23 46 rfl)
theorem bg_dX7_shut_24 : bysAt cX7_shut 24 [62, 42, 180, 0, 39, 27, 50, 16, 6, 28, 153, 0, 7, 4, 167, 0, 4, 3, 79, 29, 42] := bysAt_of (by decide +kernel)
theorem dX7_shut_24 : decode cX7_shut 24 = .ok (.istore_n 3, 1) := o_62 (bg_dX7_shut_24 0 62 rfl)
theorem dX7_shut_25 : decode cX7_shut 25 = .ok (.aload_n 0, 1) := o_42 (bg_dX7_shut_24 1 42 rfl)
theorem dX7_shut_26 : decode cX7_shut 26 = .ok (.getfield 39, 3) := o_180 (bg_dX7_shut_24 2 180 rfl) (bg_dX7_shut_24 3 0 rfl) (bg_dX7_shut_24 4 39 rfl)
theorem dX7_shut_29 : decode cX7_shut 29 = .ok (.iload_n 1, 1) := o_27 (bg_dX7_shut_24 5 27 rfl)
theorem dX7_shut_30 : decode cX7_shut 30 = .ok (.aaload, 1) := o_50 (bg_dX7_shut_24 6 50 rfl)
theorem dX7_shut_31 : decode cX7_shut 31 = .ok (.bipush 6, 2) := o_16 (bg_dX7_shut_24 7 16 rfl) (bg_dX7_shut_24 8 6 rfl) (by decide +kernel)
theorem dX7_shut_33 : decode cX7_shut 33 = .ok (.iload_n 2, 1) := o_28 (bg_dX7_shut_24 9 28 rfl)
theorem dX7_shut_34 : decode cX7_shut 34 = .ok (.ifCond .eq 7, 3) := o_153 (bg_dX7_shut_24 10 153 rfl) (bg_dX7_shut_24 11 0 rfl) (bg_dX7_shut_24 12 7 rfl) (by decide +kernel)
theorem dX7_shut_37 : decode cX7_shut 37 = .ok (.iconst 1, 1) := o_4 (bg_dX7_shut_24 13 4 rfl)
theorem dX7_shut_38 : decode cX7_shut 38 = .ok (.goto 4, 3) := o_167 (bg_dX7_shut_24 14 167 rfl) (bg_dX7_shut_24 15 0 rfl) (bg_dX7_shut_24 16 4 rfl) (by decide +kernel)
theorem dX7_shut_41 : decode cX7_shut 41 = .ok (.iconst 0, 1) := o_3 (bg_dX7_shut_24 17 3 rfl)
theorem dX7_shut_42 : decode cX7_shut 42 = .ok (.iastore, 1) := o_79 (bg_dX7_shut_24 18 79 rfl)
theorem dX7_shut_43 : decode cX7_shut 43 = .ok (.iload_n 3, 1) := o_29 (bg_dX7_shut_24 19 29 rfl)
theorem dX7_shut_44 : decode cX7_shut 44 = .ok (.aload_n 0, 1) := o_42 (bg_dX7_shut_24 20 42 rfl)
theorem bg_dX7_shut_45 : bysAt cX7_shut 45 [180, 0, 39, 27, 50, 16, 6, 46, 159, 0, 7, 4, 167, 0, 4, 3, 172] := bysAt_of (by decide +kernel)
theorem dX7_shut_45 : decode cX7_shut 45 = .ok (.getfield 39, 3) := o_180 (bg_dX7_shut_45 0 180 rfl) (bg_dX7_shut_45 1 0 rfl) (bg_dX7_shut_45 2 39 rfl)
theorem dX7_shut_48 : decode cX7_shut 48 = .ok (.iload_n 1, 1) := o_27 (bg_dX7_shut_45 3 27 rfl)
theorem dX7_shut_49 : decode cX7_shut 49 = .ok (.aaload, 1) := o_50 (bg_dX7_shut_45 4 50 rfl)
theorem dX7_shut_50 : decode cX7_shut 50 = .ok (.bipush 6, 2) := o_16 (bg_dX7_shut_45 5 16 rfl) (bg_dX7_shut_45 6 6 rfl) (by decide +kernel)
theorem dX7_shut_52 : decode cX7_shut 52 = .ok (.iaload, 1) := o_46 (bg_dX7_shut_45 7 46 rfl)
theorem dX7_shut_53 : decode cX7_shut 53 = .ok (.if_icmp .eq 7, 3) := o_159 (bg_dX7_shut_45 8 159 rfl) (bg_dX7_shut_45 9 0 rfl) (bg_dX7_shut_45 10 7 rfl) (by decide +kernel)
theorem dX7_shut_56 : decode cX7_shut 56 = .ok (.iconst 1, 1) := o_4 (bg_dX7_shut_45 11 4 rfl)
theorem dX7_shut_57 : decode cX7_shut 57 = .ok (.goto 4, 3) := o_167 (bg_dX7_shut_45 12 167 rfl) (bg_dX7_shut_45 13 0 rfl) (bg_dX7_shut_45 14 4 rfl) (by decide +kernel)
theorem dX7_shut_60 : decode cX7_shut 60 = .ok (.iconst 0, 1) := o_3 (bg_dX7_shut_45 15 3 rfl)
theorem dX7_shut_61 : decode cX7_shut 61 = .ok (.ireturn, 1) := o_172 (bg_dX7_shut_45 16 172 rfl)
theorem bg_dX7_stand_0 : bysAt cX7_stand 0 [42, 27, 182, 0, 97, 153, 0, 15, 28, 133, 9, 20, 0, 134, 184, 0, 62, 154, 0, 10, 42, 16, 254, 182, 0, 89, 172] := bysAt_of (by decide +kernel)
theorem dX7_stand_0 : decode cX7_stand 0 = .ok (.aload_n 0, 1) := o_42 (bg_dX7_stand_0 0 42 rfl)
theorem dX7_stand_1 : decode cX7_stand 1 = .ok (.iload_n 1, 1) := o_27 (bg_dX7_stand_0 1 27 rfl)
theorem dX7_stand_2 : decode cX7_stand 2 = .ok (.invokevirtual 97, 3) := o_182 (bg_dX7_stand_0 2 182 rfl) (bg_dX7_stand_0 3 0 rfl) (bg_dX7_stand_0 4 97 rfl)
theorem dX7_stand_5 : decode cX7_stand 5 = .ok (.ifCond .eq 15, 3) := o_153 (bg_dX7_stand_0 5 153 rfl) (bg_dX7_stand_0 6 0 rfl) (bg_dX7_stand_0 7 15 rfl) (by decide +kernel)
theorem dX7_stand_8 : decode cX7_stand 8 = .ok (.iload_n 2, 1) := o_28 (bg_dX7_stand_0 8 28 rfl)
theorem dX7_stand_9 : decode cX7_stand 9 = .ok (.i2l, 1) := o_133 (bg_dX7_stand_0 9 133 rfl)
theorem dX7_stand_10 : decode cX7_stand 10 = .ok (.lconst 0, 1) := o_9 (bg_dX7_stand_0 10 9 rfl)
theorem dX7_stand_11 : decode cX7_stand 11 = .ok (.ldc2_w 134, 3) := o_20 (bg_dX7_stand_0 11 20 rfl) (bg_dX7_stand_0 12 0 rfl) (bg_dX7_stand_0 13 134 rfl)
theorem dX7_stand_14 : decode cX7_stand 14 = .ok (.invokestatic 62, 3) := o_184 (bg_dX7_stand_0 14 184 rfl) (bg_dX7_stand_0 15 0 rfl) (bg_dX7_stand_0 16 62 rfl)
theorem dX7_stand_17 : decode cX7_stand 17 = .ok (.ifCond .ne 10, 3) := o_154 (bg_dX7_stand_0 17 154 rfl) (bg_dX7_stand_0 18 0 rfl) (bg_dX7_stand_0 19 10 rfl) (by decide +kernel)
theorem dX7_stand_20 : decode cX7_stand 20 = .ok (.aload_n 0, 1) := o_42 (bg_dX7_stand_0 20 42 rfl)
theorem dX7_stand_21 : decode cX7_stand 21 = .ok (.bipush (-2), 2) := o_16 (bg_dX7_stand_0 21 16 rfl) (bg_dX7_stand_0 22 254 rfl) (by decide +kernel)
theorem dX7_stand_23 : decode cX7_stand 23 = .ok (.invokevirtual 89, 3) := o_182 (bg_dX7_stand_0 23 182 rfl) (bg_dX7_stand_0 24 0 rfl) (bg_dX7_stand_0 25 89 rfl)
theorem dX7_stand_26 : decode cX7_stand 26 = .ok (.ireturn, 1) := o_172 (bg_dX7_stand_0 26 172 rfl)
theorem bg_dX7_stand_27 : bysAt cX7_stand 27 [28, 154, 0, 22, 42, 180, 0, 42, 27, 50, 4, 46, 6, 160, 0, 10, 42, 16, 251, 182, 0, 89, 172] := bysAt_of (by decide +kernel)
theorem dX7_stand_27 : decode cX7_stand 27 = .ok (.iload_n 2, 1) := o_28 (bg_dX7_stand_27 0 28 rfl)
theorem dX7_stand_28 : decode cX7_stand 28 = .ok (.ifCond .ne 22, 3) := o_154 (bg_dX7_stand_27 1 154 rfl) (bg_dX7_stand_27 2 0 rfl) (bg_dX7_stand_27 3 22 rfl) (by decide +kernel)
theorem dX7_stand_31 : decode cX7_stand 31 = .ok (.aload_n 0, 1) := o_42 (bg_dX7_stand_27 4 42 rfl)
theorem dX7_stand_32 : decode cX7_stand 32 = .ok (.getfield 42, 3) := o_180 (bg_dX7_stand_27 5 180 rfl) (bg_dX7_stand_27 6 0 rfl) (bg_dX7_stand_27 7 42 rfl)
theorem dX7_stand_35 : decode cX7_stand 35 = .ok (.iload_n 1, 1) := o_27 (bg_dX7_stand_27 8 27 rfl)
theorem dX7_stand_36 : decode cX7_stand 36 = .ok (.aaload, 1) := o_50 (bg_dX7_stand_27 9 50 rfl)
theorem dX7_stand_37 : decode cX7_stand 37 = .ok (.iconst 1, 1) := o_4 (bg_dX7_stand_27 10 4 rfl)
theorem dX7_stand_38 : decode cX7_stand 38 = .ok (.iaload, 1) := o_46 (bg_dX7_stand_27 11 46 rfl)
theorem dX7_stand_39 : decode cX7_stand 39 = .ok (.iconst 3, 1) := o_6 (bg_dX7_stand_27 12 6 rfl)
theorem dX7_stand_40 : decode cX7_stand 40 = .ok (.if_icmp .ne 10, 3) := o_160 (bg_dX7_stand_27 13 160 rfl) (bg_dX7_stand_27 14 0 rfl) (bg_dX7_stand_27 15 10 rfl) (by decide +kernel)
theorem dX7_stand_43 : decode cX7_stand 43 = .ok (.aload_n 0, 1) := o_42 (bg_dX7_stand_27 16 42 rfl)
theorem dX7_stand_44 : decode cX7_stand 44 = .ok (.bipush (-5), 2) := o_16 (bg_dX7_stand_27 17 16 rfl) (bg_dX7_stand_27 18 251 rfl) (by decide +kernel)
theorem dX7_stand_46 : decode cX7_stand 46 = .ok (.invokevirtual 89, 3) := o_182 (bg_dX7_stand_27 19 182 rfl) (bg_dX7_stand_27 20 0 rfl) (bg_dX7_stand_27 21 89 rfl)
theorem dX7_stand_49 : decode cX7_stand 49 = .ok (.ireturn, 1) := o_172 (bg_dX7_stand_27 22 172 rfl)
theorem bg_dX7_stand_50 : bysAt cX7_stand 50 [42, 180, 0, 42, 27, 50, 16, 7, 28, 96, 46, 54, 4, 42, 180, 0, 42, 27, 50, 16, 7] := bysAt_of (by decide +kernel)
theorem dX7_stand_50 : decode cX7_stand 50 = .ok (.aload_n 0, 1) := o_42 (bg_dX7_stand_50 0 42 rfl)
theorem dX7_stand_51 : decode cX7_stand 51 = .ok (.getfield 42, 3) := o_180 (bg_dX7_stand_50 1 180 rfl) (bg_dX7_stand_50 2 0 rfl) (bg_dX7_stand_50 3 42 rfl)
theorem dX7_stand_54 : decode cX7_stand 54 = .ok (.iload_n 1, 1) := o_27 (bg_dX7_stand_50 4 27 rfl)
theorem dX7_stand_55 : decode cX7_stand 55 = .ok (.aaload, 1) := o_50 (bg_dX7_stand_50 5 50 rfl)
theorem dX7_stand_56 : decode cX7_stand 56 = .ok (.bipush 7, 2) := o_16 (bg_dX7_stand_50 6 16 rfl) (bg_dX7_stand_50 7 7 rfl) (by decide +kernel)
theorem dX7_stand_58 : decode cX7_stand 58 = .ok (.iload_n 2, 1) := o_28 (bg_dX7_stand_50 8 28 rfl)
theorem dX7_stand_59 : decode cX7_stand 59 = .ok (.iadd, 1) := o_96 (bg_dX7_stand_50 9 96 rfl)
theorem dX7_stand_60 : decode cX7_stand 60 = .ok (.iaload, 1) := o_46 (bg_dX7_stand_50 10 46 rfl)
theorem dX7_stand_61 : decode cX7_stand 61 = .ok (.istore 4, 2) := o_54 (bg_dX7_stand_50 11 54 rfl) (bg_dX7_stand_50 12 4 rfl)
theorem dX7_stand_63 : decode cX7_stand 63 = .ok (.aload_n 0, 1) := o_42 (bg_dX7_stand_50 13 42 rfl)
theorem dX7_stand_64 : decode cX7_stand 64 = .ok (.getfield 42, 3) := o_180 (bg_dX7_stand_50 14 180 rfl) (bg_dX7_stand_50 15 0 rfl) (bg_dX7_stand_50 16 42 rfl)
theorem dX7_stand_67 : decode cX7_stand 67 = .ok (.iload_n 1, 1) := o_27 (bg_dX7_stand_50 17 27 rfl)
theorem dX7_stand_68 : decode cX7_stand 68 = .ok (.aaload, 1) := o_50 (bg_dX7_stand_50 18 50 rfl)
theorem dX7_stand_69 : decode cX7_stand 69 = .ok (.bipush 7, 2) := o_16 (bg_dX7_stand_50 19 16 rfl) (bg_dX7_stand_50 20 7 rfl) (by decide +kernel)
theorem bg_dX7_stand_71 : bysAt cX7_stand 71 [28, 96, 29, 153, 0, 7, 4, 167, 0, 4, 3, 79, 21, 4, 42, 180, 0, 42, 27, 50, 16, 7] := bysAt_of (by decide +kernel)
theorem dX7_stand_71 : decode cX7_stand 71 = .ok (.iload_n 2, 1) := o_28 (bg_dX7_stand_71 0 28 rfl)
theorem dX7_stand_72 : decode cX7_stand 72 = .ok (.iadd, 1) := o_96 (bg_dX7_stand_71 1 96 rfl)
theorem dX7_stand_73 : decode cX7_stand 73 = .ok (.iload_n 3, 1) := o_29 (bg_dX7_stand_71 2 29 rfl)
theorem dX7_stand_74 : decode cX7_stand 74 = .ok (.ifCond .eq 7, 3) := o_153 (bg_dX7_stand_71 3 153 rfl) (bg_dX7_stand_71 4 0 rfl) (bg_dX7_stand_71 5 7 rfl) (by decide +kernel)
theorem dX7_stand_77 : decode cX7_stand 77 = .ok (.iconst 1, 1) := o_4 (bg_dX7_stand_71 6 4 rfl)
theorem dX7_stand_78 : decode cX7_stand 78 = .ok (.goto 4, 3) := o_167 (bg_dX7_stand_71 7 167 rfl) (bg_dX7_stand_71 8 0 rfl) (bg_dX7_stand_71 9 4 rfl) (by decide +kernel)
theorem dX7_stand_81 : decode cX7_stand 81 = .ok (.iconst 0, 1) := o_3 (bg_dX7_stand_71 10 3 rfl)
theorem dX7_stand_82 : decode cX7_stand 82 = .ok (.iastore, 1) := o_79 (bg_dX7_stand_71 11 79 rfl)
theorem dX7_stand_83 : decode cX7_stand 83 = .ok (.iload 4, 2) := o_21 (bg_dX7_stand_71 12 21 rfl) (bg_dX7_stand_71 13 4 rfl)
theorem dX7_stand_85 : decode cX7_stand 85 = .ok (.aload_n 0, 1) := o_42 (bg_dX7_stand_71 14 42 rfl)
theorem dX7_stand_86 : decode cX7_stand 86 = .ok (.getfield 42, 3) := o_180 (bg_dX7_stand_71 15 180 rfl) (bg_dX7_stand_71 16 0 rfl) (bg_dX7_stand_71 17 42 rfl)
theorem dX7_stand_89 : decode cX7_stand 89 = .ok (.iload_n 1, 1) := o_27 (bg_dX7_stand_71 18 27 rfl)
theorem dX7_stand_90 : decode cX7_stand 90 = .ok (.aaload, 1) := o_50 (bg_dX7_stand_71 19 50 rfl)
theorem dX7_stand_91 : decode cX7_stand 91 = .ok (.bipush 7, 2) := o_16 (bg_dX7_stand_71 20 16 rfl) (bg_dX7_stand_71 21 7 rfl) (by decide +kernel)
theorem bg_dX7_stand_93 : bysAt cX7_stand 93 [28, 96, 46, 159, 0, 7, 4, 167, 0, 4, 3, 172] := bysAt_of (by decide +kernel)
theorem dX7_stand_93 : decode cX7_stand 93 = .ok (.iload_n 2, 1) := o_28 (bg_dX7_stand_93 0 28 rfl)
theorem dX7_stand_94 : decode cX7_stand 94 = .ok (.iadd, 1) := o_96 (bg_dX7_stand_93 1 96 rfl)
theorem dX7_stand_95 : decode cX7_stand 95 = .ok (.iaload, 1) := o_46 (bg_dX7_stand_93 2 46 rfl)
theorem dX7_stand_96 : decode cX7_stand 96 = .ok (.if_icmp .eq 7, 3) := o_159 (bg_dX7_stand_93 3 159 rfl) (bg_dX7_stand_93 4 0 rfl) (bg_dX7_stand_93 5 7 rfl) (by decide +kernel)
theorem dX7_stand_99 : decode cX7_stand 99 = .ok (.iconst 1, 1) := o_4 (bg_dX7_stand_93 6 4 rfl)
theorem dX7_stand_100 : decode cX7_stand 100 = .ok (.goto 4, 3) := o_167 (bg_dX7_stand_93 7 167 rfl) (bg_dX7_stand_93 8 0 rfl) (bg_dX7_stand_93 9 4 rfl) (by decide +kernel)
theorem dX7_stand_103 : decode cX7_stand 103 = .ok (.iconst 0, 1) := o_3 (bg_dX7_stand_93 10 3 rfl)
theorem dX7_stand_104 : decode cX7_stand 104 = .ok (.ireturn, 1) := o_172 (bg_dX7_stand_93 11 172 rfl)
theorem bg_dX7_strain_0 : bysAt cX7_strain 0 [42, 27, 28, 182, 1, 4, 153, 0, 21, 42, 29, 182, 0, 97, 153, 0, 13, 42, 27, 28, 29, 182, 1, 11] := bysAt_of (by decide +kernel)
theorem dX7_strain_0 : decode cX7_strain 0 = .ok (.aload_n 0, 1) := o_42 (bg_dX7_strain_0 0 42 rfl)
theorem dX7_strain_1 : decode cX7_strain 1 = .ok (.iload_n 1, 1) := o_27 (bg_dX7_strain_0 1 27 rfl)
theorem dX7_strain_2 : decode cX7_strain 2 = .ok (.iload_n 2, 1) := o_28 (bg_dX7_strain_0 2 28 rfl)
theorem dX7_strain_3 : decode cX7_strain 3 = .ok (.invokevirtual 260, 3) := o_182 (bg_dX7_strain_0 3 182 rfl) (bg_dX7_strain_0 4 1 rfl) (bg_dX7_strain_0 5 4 rfl)
theorem dX7_strain_6 : decode cX7_strain 6 = .ok (.ifCond .eq 21, 3) := o_153 (bg_dX7_strain_0 6 153 rfl) (bg_dX7_strain_0 7 0 rfl) (bg_dX7_strain_0 8 21 rfl) (by decide +kernel)
theorem dX7_strain_9 : decode cX7_strain 9 = .ok (.aload_n 0, 1) := o_42 (bg_dX7_strain_0 9 42 rfl)
theorem dX7_strain_10 : decode cX7_strain 10 = .ok (.iload_n 3, 1) := o_29 (bg_dX7_strain_0 10 29 rfl)
theorem dX7_strain_11 : decode cX7_strain 11 = .ok (.invokevirtual 97, 3) := o_182 (bg_dX7_strain_0 11 182 rfl) (bg_dX7_strain_0 12 0 rfl) (bg_dX7_strain_0 13 97 rfl)
theorem dX7_strain_14 : decode cX7_strain 14 = .ok (.ifCond .eq 13, 3) := o_153 (bg_dX7_strain_0 14 153 rfl) (bg_dX7_strain_0 15 0 rfl) (bg_dX7_strain_0 16 13 rfl) (by decide +kernel)
theorem dX7_strain_17 : decode cX7_strain 17 = .ok (.aload_n 0, 1) := o_42 (bg_dX7_strain_0 17 42 rfl)
theorem dX7_strain_18 : decode cX7_strain 18 = .ok (.iload_n 1, 1) := o_27 (bg_dX7_strain_0 18 27 rfl)
theorem dX7_strain_19 : decode cX7_strain 19 = .ok (.iload_n 2, 1) := o_28 (bg_dX7_strain_0 19 28 rfl)
theorem dX7_strain_20 : decode cX7_strain 20 = .ok (.iload_n 3, 1) := o_29 (bg_dX7_strain_0 20 29 rfl)
theorem dX7_strain_21 : decode cX7_strain 21 = .ok (.invokevirtual 267, 3) := o_182 (bg_dX7_strain_0 21 182 rfl) (bg_dX7_strain_0 22 1 rfl) (bg_dX7_strain_0 23 11 rfl)
theorem bg_dX7_strain_24 : bysAt cX7_strain 24 [167, 0, 9, 42, 16, 254, 182, 0, 89, 172] := bysAt_of (by decide +kernel)
theorem dX7_strain_24 : decode cX7_strain 24 = .ok (.goto 9, 3) := o_167 (bg_dX7_strain_24 0 167 rfl) (bg_dX7_strain_24 1 0 rfl) (bg_dX7_strain_24 2 9 rfl) (by decide +kernel)
theorem dX7_strain_27 : decode cX7_strain 27 = .ok (.aload_n 0, 1) := o_42 (bg_dX7_strain_24 3 42 rfl)
theorem dX7_strain_28 : decode cX7_strain 28 = .ok (.bipush (-2), 2) := o_16 (bg_dX7_strain_24 4 16 rfl) (bg_dX7_strain_24 5 254 rfl) (by decide +kernel)
theorem dX7_strain_30 : decode cX7_strain 30 = .ok (.invokevirtual 89, 3) := o_182 (bg_dX7_strain_24 6 182 rfl) (bg_dX7_strain_24 7 0 rfl) (bg_dX7_strain_24 8 89 rfl)
theorem dX7_strain_33 : decode cX7_strain 33 = .ok (.ireturn, 1) := o_172 (bg_dX7_strain_24 9 172 rfl)
theorem bg_dX7_waggon_0 : bysAt cX7_waggon 0 [27, 133, 20, 0, 134, 20, 0, 136, 184, 0, 62, 153, 0, 27, 28, 133, 10, 20, 0, 118, 184, 0, 62, 153, 0, 15, 29, 133] := bysAt_of (by decide +kernel)
theorem dX7_waggon_0 : decode cX7_waggon 0 = .ok (.iload_n 1, 1) := o_27 (bg_dX7_waggon_0 0 27 rfl)
theorem dX7_waggon_1 : decode cX7_waggon 1 = .ok (.i2l, 1) := o_133 (bg_dX7_waggon_0 1 133 rfl)
theorem dX7_waggon_2 : decode cX7_waggon 2 = .ok (.ldc2_w 134, 3) := o_20 (bg_dX7_waggon_0 2 20 rfl) (bg_dX7_waggon_0 3 0 rfl) (bg_dX7_waggon_0 4 134 rfl)
theorem dX7_waggon_5 : decode cX7_waggon 5 = .ok (.ldc2_w 136, 3) := o_20 (bg_dX7_waggon_0 5 20 rfl) (bg_dX7_waggon_0 6 0 rfl) (bg_dX7_waggon_0 7 136 rfl)
theorem dX7_waggon_8 : decode cX7_waggon 8 = .ok (.invokestatic 62, 3) := o_184 (bg_dX7_waggon_0 8 184 rfl) (bg_dX7_waggon_0 9 0 rfl) (bg_dX7_waggon_0 10 62 rfl)
theorem dX7_waggon_11 : decode cX7_waggon 11 = .ok (.ifCond .eq 27, 3) := o_153 (bg_dX7_waggon_0 11 153 rfl) (bg_dX7_waggon_0 12 0 rfl) (bg_dX7_waggon_0 13 27 rfl) (by decide +kernel)
theorem dX7_waggon_14 : decode cX7_waggon 14 = .ok (.iload_n 2, 1) := o_28 (bg_dX7_waggon_0 14 28 rfl)
theorem dX7_waggon_15 : decode cX7_waggon 15 = .ok (.i2l, 1) := o_133 (bg_dX7_waggon_0 15 133 rfl)
theorem dX7_waggon_16 : decode cX7_waggon 16 = .ok (.lconst 1, 1) := o_10 (bg_dX7_waggon_0 16 10 rfl)
theorem dX7_waggon_17 : decode cX7_waggon 17 = .ok (.ldc2_w 118, 3) := o_20 (bg_dX7_waggon_0 17 20 rfl) (bg_dX7_waggon_0 18 0 rfl) (bg_dX7_waggon_0 19 118 rfl)
theorem dX7_waggon_20 : decode cX7_waggon 20 = .ok (.invokestatic 62, 3) := o_184 (bg_dX7_waggon_0 20 184 rfl) (bg_dX7_waggon_0 21 0 rfl) (bg_dX7_waggon_0 22 62 rfl)
theorem dX7_waggon_23 : decode cX7_waggon 23 = .ok (.ifCond .eq 15, 3) := o_153 (bg_dX7_waggon_0 23 153 rfl) (bg_dX7_waggon_0 24 0 rfl) (bg_dX7_waggon_0 25 15 rfl) (by decide +kernel)
theorem dX7_waggon_26 : decode cX7_waggon 26 = .ok (.iload_n 3, 1) := o_29 (bg_dX7_waggon_0 26 29 rfl)
theorem dX7_waggon_27 : decode cX7_waggon 27 = .ok (.i2l, 1) := o_133 (bg_dX7_waggon_0 27 133 rfl)
theorem bg_dX7_waggon_28 : bysAt cX7_waggon 28 [9, 20, 0, 120, 184, 0, 62, 154, 0, 10, 42, 16, 254, 182, 0, 89, 172, 42, 180, 0, 73, 8, 160, 0, 10, 42, 16, 250] := bysAt_of (by decide +kernel)
theorem dX7_waggon_28 : decode cX7_waggon 28 = .ok (.lconst 0, 1) := o_9 (bg_dX7_waggon_28 0 9 rfl)
theorem dX7_waggon_29 : decode cX7_waggon 29 = .ok (.ldc2_w 120, 3) := o_20 (bg_dX7_waggon_28 1 20 rfl) (bg_dX7_waggon_28 2 0 rfl) (bg_dX7_waggon_28 3 120 rfl)
theorem dX7_waggon_32 : decode cX7_waggon 32 = .ok (.invokestatic 62, 3) := o_184 (bg_dX7_waggon_28 4 184 rfl) (bg_dX7_waggon_28 5 0 rfl) (bg_dX7_waggon_28 6 62 rfl)
theorem dX7_waggon_35 : decode cX7_waggon 35 = .ok (.ifCond .ne 10, 3) := o_154 (bg_dX7_waggon_28 7 154 rfl) (bg_dX7_waggon_28 8 0 rfl) (bg_dX7_waggon_28 9 10 rfl) (by decide +kernel)
theorem dX7_waggon_38 : decode cX7_waggon 38 = .ok (.aload_n 0, 1) := o_42 (bg_dX7_waggon_28 10 42 rfl)
theorem dX7_waggon_39 : decode cX7_waggon 39 = .ok (.bipush (-2), 2) := o_16 (bg_dX7_waggon_28 11 16 rfl) (bg_dX7_waggon_28 12 254 rfl) (by decide +kernel)
theorem dX7_waggon_41 : decode cX7_waggon 41 = .ok (.invokevirtual 89, 3) := o_182 (bg_dX7_waggon_28 13 182 rfl) (bg_dX7_waggon_28 14 0 rfl) (bg_dX7_waggon_28 15 89 rfl)
theorem dX7_waggon_44 : decode cX7_waggon 44 = .ok (.ireturn, 1) := o_172 (bg_dX7_waggon_28 16 172 rfl)
theorem dX7_waggon_45 : decode cX7_waggon 45 = .ok (.aload_n 0, 1) := o_42 (bg_dX7_waggon_28 17 42 rfl)
theorem dX7_waggon_46 : decode cX7_waggon 46 = .ok (.getfield 73, 3) := o_180 (bg_dX7_waggon_28 18 180 rfl) (bg_dX7_waggon_28 19 0 rfl) (bg_dX7_waggon_28 20 73 rfl)
theorem dX7_waggon_49 : decode cX7_waggon 49 = .ok (.iconst 5, 1) := o_8 (bg_dX7_waggon_28 21 8 rfl)
theorem dX7_waggon_50 : decode cX7_waggon 50 = .ok (.if_icmp .ne 10, 3) := o_160 (bg_dX7_waggon_28 22 160 rfl) (bg_dX7_waggon_28 23 0 rfl) (bg_dX7_waggon_28 24 10 rfl) (by decide +kernel)
theorem dX7_waggon_53 : decode cX7_waggon 53 = .ok (.aload_n 0, 1) := o_42 (bg_dX7_waggon_28 25 42 rfl)
theorem dX7_waggon_54 : decode cX7_waggon 54 = .ok (.bipush (-6), 2) := o_16 (bg_dX7_waggon_28 26 16 rfl) (bg_dX7_waggon_28 27 250 rfl) (by decide +kernel)
theorem bg_dX7_waggon_56 : bysAt cX7_waggon 56 [182, 0, 89, 172, 42, 180, 0, 45, 42, 180, 0, 73, 50, 3, 27, 79, 42, 180, 0, 45, 42, 180, 0, 73] := bysAt_of (by decide +kernel)
theorem dX7_waggon_56 : decode cX7_waggon 56 = .ok (.invokevirtual 89, 3) := o_182 (bg_dX7_waggon_56 0 182 rfl) (bg_dX7_waggon_56 1 0 rfl) (bg_dX7_waggon_56 2 89 rfl)
theorem dX7_waggon_59 : decode cX7_waggon 59 = .ok (.ireturn, 1) := o_172 (bg_dX7_waggon_56 3 172 rfl)
theorem dX7_waggon_60 : decode cX7_waggon 60 = .ok (.aload_n 0, 1) := o_42 (bg_dX7_waggon_56 4 42 rfl)
theorem dX7_waggon_61 : decode cX7_waggon 61 = .ok (.getfield 45, 3) := o_180 (bg_dX7_waggon_56 5 180 rfl) (bg_dX7_waggon_56 6 0 rfl) (bg_dX7_waggon_56 7 45 rfl)
theorem dX7_waggon_64 : decode cX7_waggon 64 = .ok (.aload_n 0, 1) := o_42 (bg_dX7_waggon_56 8 42 rfl)
theorem dX7_waggon_65 : decode cX7_waggon 65 = .ok (.getfield 73, 3) := o_180 (bg_dX7_waggon_56 9 180 rfl) (bg_dX7_waggon_56 10 0 rfl) (bg_dX7_waggon_56 11 73 rfl)
theorem dX7_waggon_68 : decode cX7_waggon 68 = .ok (.aaload, 1) := o_50 (bg_dX7_waggon_56 12 50 rfl)
theorem dX7_waggon_69 : decode cX7_waggon 69 = .ok (.iconst 0, 1) := o_3 (bg_dX7_waggon_56 13 3 rfl)
theorem dX7_waggon_70 : decode cX7_waggon 70 = .ok (.iload_n 1, 1) := o_27 (bg_dX7_waggon_56 14 27 rfl)
theorem dX7_waggon_71 : decode cX7_waggon 71 = .ok (.iastore, 1) := o_79 (bg_dX7_waggon_56 15 79 rfl)
theorem dX7_waggon_72 : decode cX7_waggon 72 = .ok (.aload_n 0, 1) := o_42 (bg_dX7_waggon_56 16 42 rfl)
theorem dX7_waggon_73 : decode cX7_waggon 73 = .ok (.getfield 45, 3) := o_180 (bg_dX7_waggon_56 17 180 rfl) (bg_dX7_waggon_56 18 0 rfl) (bg_dX7_waggon_56 19 45 rfl)
theorem dX7_waggon_76 : decode cX7_waggon 76 = .ok (.aload_n 0, 1) := o_42 (bg_dX7_waggon_56 20 42 rfl)
theorem dX7_waggon_77 : decode cX7_waggon 77 = .ok (.getfield 73, 3) := o_180 (bg_dX7_waggon_56 21 180 rfl) (bg_dX7_waggon_56 22 0 rfl) (bg_dX7_waggon_56 23 73 rfl)
theorem bg_dX7_waggon_80 : bysAt cX7_waggon 80 [50, 4, 28, 79, 42, 180, 0, 45, 42, 180, 0, 73, 50, 5, 29, 79, 42, 89] := bysAt_of (by decide +kernel)
theorem dX7_waggon_80 : decode cX7_waggon 80 = .ok (.aaload, 1) := o_50 (bg_dX7_waggon_80 0 50 rfl)
theorem dX7_waggon_81 : decode cX7_waggon 81 = .ok (.iconst 1, 1) := o_4 (bg_dX7_waggon_80 1 4 rfl)
theorem dX7_waggon_82 : decode cX7_waggon 82 = .ok (.iload_n 2, 1) := o_28 (bg_dX7_waggon_80 2 28 rfl)
theorem dX7_waggon_83 : decode cX7_waggon 83 = .ok (.iastore, 1) := o_79 (bg_dX7_waggon_80 3 79 rfl)
theorem dX7_waggon_84 : decode cX7_waggon 84 = .ok (.aload_n 0, 1) := o_42 (bg_dX7_waggon_80 4 42 rfl)
theorem dX7_waggon_85 : decode cX7_waggon 85 = .ok (.getfield 45, 3) := o_180 (bg_dX7_waggon_80 5 180 rfl) (bg_dX7_waggon_80 6 0 rfl) (bg_dX7_waggon_80 7 45 rfl)
theorem dX7_waggon_88 : decode cX7_waggon 88 = .ok (.aload_n 0, 1) := o_42 (bg_dX7_waggon_80 8 42 rfl)
theorem dX7_waggon_89 : decode cX7_waggon 89 = .ok (.getfield 73, 3) := o_180 (bg_dX7_waggon_80 9 180 rfl) (bg_dX7_waggon_80 10 0 rfl) (bg_dX7_waggon_80 11 73 rfl)
theorem dX7_waggon_92 : decode cX7_waggon 92 = .ok (.aaload, 1) := o_50 (bg_dX7_waggon_80 12 50 rfl)
theorem dX7_waggon_93 : decode cX7_waggon 93 = .ok (.iconst 2, 1) := o_5 (bg_dX7_waggon_80 13 5 rfl)
theorem dX7_waggon_94 : decode cX7_waggon 94 = .ok (.iload_n 3, 1) := o_29 (bg_dX7_waggon_80 14 29 rfl)
theorem dX7_waggon_95 : decode cX7_waggon 95 = .ok (.iastore, 1) := o_79 (bg_dX7_waggon_80 15 79 rfl)
theorem dX7_waggon_96 : decode cX7_waggon 96 = .ok (.aload_n 0, 1) := o_42 (bg_dX7_waggon_80 16 42 rfl)
theorem dX7_waggon_97 : decode cX7_waggon 97 = .ok (.dup, 1) := o_89 (bg_dX7_waggon_80 17 89 rfl)
theorem bg_dX7_waggon_98 : bysAt cX7_waggon 98 [180, 0, 73, 90, 4, 96, 181, 0, 73, 172] := bysAt_of (by decide +kernel)
theorem dX7_waggon_98 : decode cX7_waggon 98 = .ok (.getfield 73, 3) := o_180 (bg_dX7_waggon_98 0 180 rfl) (bg_dX7_waggon_98 1 0 rfl) (bg_dX7_waggon_98 2 73 rfl)
theorem dX7_waggon_101 : decode cX7_waggon 101 = .ok (.dup_x1, 1) := o_90 (bg_dX7_waggon_98 3 90 rfl)
theorem dX7_waggon_102 : decode cX7_waggon 102 = .ok (.iconst 1, 1) := o_4 (bg_dX7_waggon_98 4 4 rfl)
theorem dX7_waggon_103 : decode cX7_waggon 103 = .ok (.iadd, 1) := o_96 (bg_dX7_waggon_98 5 96 rfl)
theorem dX7_waggon_104 : decode cX7_waggon 104 = .ok (.putfield 73, 3) := o_181 (bg_dX7_waggon_98 6 181 rfl) (bg_dX7_waggon_98 7 0 rfl) (bg_dX7_waggon_98 8 73 rfl)
theorem dX7_waggon_107 : decode cX7_waggon 107 = .ok (.ireturn, 1) := o_172 (bg_dX7_waggon_98 9 172 rfl)
theorem bg_dX7_wipe_0 : bysAt cX7_wipe 0 [42, 180, 0, 140, 60, 42, 3, 181, 0, 140, 27, 172] := bysAt_of (by decide +kernel)
theorem dX7_wipe_0 : decode cX7_wipe 0 = .ok (.aload_n 0, 1) := o_42 (bg_dX7_wipe_0 0 42 rfl)
theorem dX7_wipe_1 : decode cX7_wipe 1 = .ok (.getfield 140, 3) := o_180 (bg_dX7_wipe_0 1 180 rfl) (bg_dX7_wipe_0 2 0 rfl) (bg_dX7_wipe_0 3 140 rfl)
theorem dX7_wipe_4 : decode cX7_wipe 4 = .ok (.istore_n 1, 1) := o_60 (bg_dX7_wipe_0 4 60 rfl)
theorem dX7_wipe_5 : decode cX7_wipe 5 = .ok (.aload_n 0, 1) := o_42 (bg_dX7_wipe_0 5 42 rfl)
theorem dX7_wipe_6 : decode cX7_wipe 6 = .ok (.iconst 0, 1) := o_3 (bg_dX7_wipe_0 6 3 rfl)
theorem dX7_wipe_7 : decode cX7_wipe 7 = .ok (.putfield 140, 3) := o_181 (bg_dX7_wipe_0 7 181 rfl) (bg_dX7_wipe_0 8 0 rfl) (bg_dX7_wipe_0 9 140 rfl)
theorem dX7_wipe_10 : decode cX7_wipe 10 = .ok (.iload_n 1, 1) := o_27 (bg_dX7_wipe_0 10 27 rfl)
theorem dX7_wipe_11 : decode cX7_wipe 11 = .ok (.ireturn, 1) := o_172 (bg_dX7_wipe_0 11 172 rfl)
theorem pdX7_fit : yX7_fit.cls ≠ "java/lang/invoke/MethodHandle" ∧ yX7_fit.cls ≠ "java/lang/invoke/VarHandle" ∧ (parseMethodDescriptor yX7_fit.desc).map (fun d => d.parameters.length) = some 2 := by decide +kernel
theorem pdVX7_isBridge : yX7_isBridge.cls = RX7 ∧ yX7_isBridge.cls ≠ "java/lang/invoke/MethodHandle" ∧ yX7_isBridge.cls ≠ "java/lang/invoke/VarHandle" ∧ (parseMethodDescriptor yX7_isBridge.desc).map (fun d => d.parameters.length) = some 1 := by decide +kernel
theorem pdVX7_isPack : yX7_isPack.cls = RX7 ∧ yX7_isPack.cls ≠ "java/lang/invoke/MethodHandle" ∧ yX7_isPack.cls ≠ "java/lang/invoke/VarHandle" ∧ (parseMethodDescriptor yX7_isPack.desc).map (fun d => d.parameters.length) = some 2 := by decide +kernel
theorem pdX7_isPlace : yX7_isPlace.cls ≠ "java/lang/invoke/MethodHandle" ∧ yX7_isPlace.cls ≠ "java/lang/invoke/VarHandle" ∧ (parseMethodDescriptor yX7_isPlace.desc).map (fun d => d.parameters.length) = some 1 := by decide +kernel
theorem pdVX7_isRoad : yX7_isRoad.cls = RX7 ∧ yX7_isRoad.cls ≠ "java/lang/invoke/MethodHandle" ∧ yX7_isRoad.cls ≠ "java/lang/invoke/VarHandle" ∧ (parseMethodDescriptor yX7_isRoad.desc).map (fun d => d.parameters.length) = some 1 := by decide +kernel
theorem pdX7_isUnder : yX7_isUnder.cls ≠ "java/lang/invoke/MethodHandle" ∧ yX7_isUnder.cls ≠ "java/lang/invoke/VarHandle" ∧ (parseMethodDescriptor yX7_isUnder.desc).map (fun d => d.parameters.length) = some 2 := by decide +kernel
theorem pdVX7_newBridge : yX7_newBridge.cls = RX7 ∧ yX7_newBridge.cls ≠ "java/lang/invoke/MethodHandle" ∧ yX7_newBridge.cls ≠ "java/lang/invoke/VarHandle" ∧ (parseMethodDescriptor yX7_newBridge.desc).map (fun d => d.parameters.length) = some 0 := by decide +kernel
theorem pdVX7_newRoad : yX7_newRoad.cls = RX7 ∧ yX7_newRoad.cls ≠ "java/lang/invoke/MethodHandle" ∧ yX7_newRoad.cls ≠ "java/lang/invoke/VarHandle" ∧ (parseMethodDescriptor yX7_newRoad.desc).map (fun d => d.parameters.length) = some 2 := by decide +kernel
theorem pdVX7_refuse : yX7_refuse.cls = RX7 ∧ yX7_refuse.cls ≠ "java/lang/invoke/MethodHandle" ∧ yX7_refuse.cls ≠ "java/lang/invoke/VarHandle" ∧ (parseMethodDescriptor yX7_refuse.desc).map (fun d => d.parameters.length) = some 1 := by decide +kernel
theorem dX7_copy_216 : decode cX7_copy 216 = .ok (.iinc 6 1, 3) := by decide +kernel
theorem dX7_copy_251 : decode cX7_copy 251 = .ok (.iinc 6 1, 3) := by decide +kernel
theorem dX7_newBridge_20 : decode cX7_newBridge 20 = .ok (.iinc 1 1, 3) := by decide +kernel
theorem dX7_row_84 : decode cX7_row 84 = .ok (.iinc 4 1, 3) := by decide +kernel
theorem dX7_says_102 : decode cX7_says 102 = .ok (.tableswitch 68 0 4 #[34, 43, 43, 49, 58], 34) := by decide +kernel
theorem oh_row64 {x : Int32} {k : Int64} {k' : Int32} (hk : k = Int32.toInt64 k') (h : ¬ ((0 : Int64) ≤ Int32.toInt64 x ∧ Int32.toInt64 x ≤ k)) : ¬ ((0 : Int32) ≤ x ∧ x ≤ k') := by
  intro q
  refine h ⟨?_, ?_⟩
  · have := Int32.le_iff_toInt_le.mp q.1
    exact Int64.le_iff_toInt_le.mpr (by rw [oh_l32]; exact this)
  · have := Int32.le_iff_toInt_le.mp q.2
    rw [hk]
    exact Int64.le_iff_toInt_le.mpr (by rw [oh_l32, oh_l32]; exact this)
/-- a shelf's own place is written: another kind than a bridge -/
theorem oh_relS1 {C C2 : Nat → va_E} {n : Nat} {cA : ClassId} {i v : Int32} (h : RelS C) (e1 : ga (C2 1) = upd (ga (C 1)) i.toNatClampNeg v) (e6 : C2 6 = C 6) (hv : ¬ v = 2) : RelS C2 := by
  intro s hs c
  rw [e1] at c
  by_cases hq : s = i.toNatClampNeg
  · rw [hq, pk_us] at c
    exact absurd c hv
  · rw [pk_un hq] at c
    rw [e6]
    exact h s hs c
theorem oh_relS2 {C C2 : Nat → va_E} {i v b : Int32} (h : RelS C) (e1 : ga (C2 1) = upd (ga (C 1)) i.toNatClampNeg v) (e6 : ga (C2 6) = upd (ga (C 6)) i.toNatClampNeg b) (hv : v = 2 → 0 ≤ b.toInt) : RelS C2 := by
  intro s hs c
  rw [e1] at c
  rw [e6]
  by_cases hq : s = i.toNatClampNeg
  · rw [hq, pk_us] at c
    rw [hq, pk_us]
    exact hv c
  · rw [pk_un hq] at c
    rw [pk_un hq]
    exact h s hs c

theorem oh_cix {i k n sz : Int32} (hi : rg i 0 2147483647) (hk : rg k 0 40) (hn : rg n 0 40) (hs : rg sz 0 40) (c : i ≤ sz - n) (d : k < n) : vp_in (i + k) 40 := by
  have c1 := Int32.le_iff_toInt_le.mp c
  have d1 := Int32.lt_iff_toInt_lt.mp d
  have e : (sz - n).toInt = sz.toInt - n.toInt := by
    rw [Int32.toInt_sub]
    exact oh_bmod (by have := hs.1; have := hn.2; omega) (by have := hs.2; have := hn.1; omega)
  rw [e] at c1
  obtain ⟨i1, i2⟩ := hi
  obtain ⟨k1, k2⟩ := hk
  obtain ⟨s1, s2⟩ := hs
  have e2 : (i + k).toInt = i.toInt + k.toInt := by
    rw [Int32.toInt_add]
    exact oh_bmod (by omega) (by omega)
  exact vp_in_iff.mpr ⟨by rw [e2]; omega, by rw [e2]; omega⟩

set_option maxHeartbeats 4000000 in
set_option maxRecDepth 100000 in
theorem c_X7_element (l : Launch) (D : va_G) (E : Nat → ClassId) (G : Nat → Nat) (a : Nat → Nat) (C : Nat → va_E) (n : Nat) (hn : 74 ≤ n) (hT : TyM a E C) (x1 : Int32) (x2 : Int32) (hR : RelM C) : Met l yX7_element (oh_w yX7_element cX7_element 3 (some .long)) ({ frames := 1, cells := 0, slots := 0, locals := 25 }) (oh_Pp D E G [.ref (a 0), .int x1, .int x2] (oh_W n a C)) (vp_Sl (fun r => True)) 0 0 (fun _ => False) := by
  refine Met.ofW (cc := cX7_element) (maxL := 3) (ret := (some .long)) (by decide) rfl ?_
  intro p e s m args below meth c s₁ B hml hv
  obtain ⟨rfl, hP, hK, hG⟩ := hv
  have hx := B.exec
  have hb := B.bytes
  have hr := B.returns
  have hts := atoms_spec (ws := (oh_w yX7_element cX7_element 3 (some .long))) B.pre
  have htg : ∀ w ∈ oh_t, w.before _ s = true := fun w h => hts w (List.mem_cons_of_mem _ h)
  have hown : s.vm.findClass RX7 = some m.cls := findClass_of_methodNamed B.named
  have hlocks := B.notSynchronized
  have hT0 := hT
  have hS : va_S (fun _ => False) s.heap s.heap [] := va_S.rf
  have hl := lv_entry ([.ref (a 0), .int x1, .int x2]) (n := 3) (Nat.le_of_ble_eq_true rfl)
  rw [lg_entry_eq]
  generalize (lg_sl ([.ref (a 0), .int x1, .int x2]) ++ List.replicate (3 - (lg_sl ([.ref (a 0), .int x1, .int x2])).length) Slot.unset).toArray = ls at hl ⊢
  have hl : lv_has ls 3 [(0, .ref (a 0)), (1, .int x1), (2, .int x2)] := hl
  refine oh_genQ (fun Q hQ => ?_)
  refine lv_iload_n hx hb dX7_element_0 rfl (lv_at hl 1 rfl) ?_
  refine lv_i2l (v := Int32.toInt64 x1) hx hb dX7_element_1 (by rfl) ?_
  refine lv_lconst (v := 0) hx hb dX7_element_2 (by decide) ?_
  refine lv_ldc2 (v := 7) hx hb hown (htg _ q_1065) dX7_element_3 ?_
  refine tq_S (As := [.long (Int32.toInt64 x1), .long 0, .long 7]) (rest := []) (ws := []) ⟨hx, hb, hml, hown, htg⟩ (c_X7_in l D E G (Int32.toInt64 x1) (0 : Int64) (7 : Int64)) (va_cwS 3 htg (oh_gS q_1066 q_1067 q_73 q_1068) rfl rfl rfl pdX7_in ⟨Nat.le_of_ble_eq_true rfl, Nat.le_of_ble_eq_true rfl⟩) hK va_nil hG hS rfl hl.1 rfl (Nat.le_of_ble_eq_true rfl) dX7_element_6 ⟨Nat.le_of_ble_eq_true rfl, Nat.le_of_ble_eq_true rfl⟩ (fun r_1 hq_2 => ?_)
  refine lv_if_eq (tgt := 51) hx hb dX7_element_9 (by decide) (fun (c_3 : r_1 = 0) => ?_) (fun (c_3 : ¬ (r_1 = 0)) => ?_)
  · have u_4 := hq_2.2.2 c_3
    refine lv_lconst (v := 0) hx hb dX7_element_51 (by decide) ?_
    rw [hQ]
    exact W.lret (v := 0) hx hb hr (fun t ht hW => ⟨0, rfl, trivial, ht⟩) (fun q h => by cases h) dX7_element_52
  · have u_5 := hq_2.2.1 c_3
    refine lv_aload_n hx hb dX7_element_12 rfl (lv_at hl 0 rfl) ?_
    refine va_get (D := D) (ci := 7) (v := .ref (a 1)) (C := RX7) (T := TX7) (N := 29) hx hb htg ig_7 hown hK hP 0 (oh_wg (Nat.lt_of_lt_of_le (by decide) hn) (sM_0 hT)) rfl 0 (by decide) (htg _ q_973) (fun _ h9 => h9) rfl dX7_element_13 ?_
    refine lv_iload_n hx hb dX7_element_16 rfl (lv_at hl 1 rfl) ?_
    have n_6 : vp_in x1 8 := (rg_in (rg_il (rgL_i (rg_il (rnL_leu u_5.2 (rnL_lel u_5.1 (rgL_c (v := 0) (lo := 0) (hi := 0) (by decide)) (rgL_i (rg_any _))) (rgL_c (v := 7) (lo := 7) (hi := 7) (by decide)))))) (by decide))
    refine th_iald hx hb hK hP 1 (Nat.lt_of_lt_of_le (by decide) hn) (sM_1 hT) n_6 dX7_element_17 ?_
    refine lv_iconst (v := 1) hx hb dX7_element_18 (by decide) ?_
    refine lv_icmp_ne (tgt := 51) hx hb dX7_element_19 (by decide) (fun (c_7 : ¬ ((ga (C 1) (x1).toNatClampNeg) = 1)) => ?_) (fun (c_7 : (ga (C 1) (x1).toNatClampNeg) = 1) => ?_)
    · refine lv_lconst (v := 0) hx hb dX7_element_51 (by decide) ?_
      rw [hQ]
      exact W.lret (v := 0) hx hb hr (fun t ht hW => ⟨0, rfl, trivial, ht⟩) (fun q h => by cases h) dX7_element_52
    · refine lv_iload_n hx hb dX7_element_22 rfl (lv_at hl 2 rfl) ?_
      refine lv_i2l (v := Int32.toInt64 x2) hx hb dX7_element_23 (by rfl) ?_
      refine lv_lconst (v := 0) hx hb dX7_element_24 (by decide) ?_
      refine lv_aload_n hx hb dX7_element_25 rfl (lv_at hl 0 rfl) ?_
      refine va_get (D := D) (ci := 7) (v := .ref (a 3)) (C := RX7) (T := TX7) (N := 29) hx hb htg ig_7 hown hK hP 0 (oh_wg (Nat.lt_of_lt_of_le (by decide) hn) (sM_0 hT)) rfl 2 (by decide) (htg _ q_975) (fun _ h9 => h9) rfl dX7_element_26 ?_
      refine lv_iload_n hx hb dX7_element_29 rfl (lv_at hl 1 rfl) ?_
      have n_8 : vp_in x1 8 := (rg_in (rg_il (rgL_i (rg_il (rnL_leu u_5.2 (rnL_lel u_5.1 (rgL_c (v := 0) (lo := 0) (hi := 0) (by decide)) (rgL_i (rg_any _))) (rgL_c (v := 7) (lo := 7) (hi := 7) (by decide)))))) (by decide))
      refine th_iald hx hb hK hP 3 (Nat.lt_of_lt_of_le (by decide) hn) (sM_3 hT) n_8 dX7_element_30 ?_
      refine lv_iconst (v := 1) hx hb dX7_element_31 (by decide) ?_
      refine lv_isub hx hb dX7_element_32 ?_
      refine lv_i2l (v := Int32.toInt64 ((ga (C 3) (x1).toNatClampNeg) - 1)) hx hb dX7_element_33 (by rfl) ?_
      refine tq_S (As := [.long (Int32.toInt64 x2), .long 0, .long (Int32.toInt64 ((ga (C 3) (x1).toNatClampNeg) - 1))]) (rest := []) (ws := []) ⟨hx, hb, hml, hown, htg⟩ (c_X7_in l D E G (Int32.toInt64 x2) (0 : Int64) (Int32.toInt64 ((ga (C 3) (x1).toNatClampNeg) - 1))) (va_cwS 3 htg (oh_gS q_1066 q_1067 q_73 q_1068) rfl rfl rfl pdX7_in ⟨Nat.le_of_ble_eq_true rfl, Nat.le_of_ble_eq_true rfl⟩) hK va_nil hG hS rfl hl.1 rfl (Nat.le_of_ble_eq_true rfl) dX7_element_34 ⟨Nat.le_of_ble_eq_true rfl, Nat.le_of_ble_eq_true rfl⟩ (fun r_9 hq_10 => ?_)
      refine lv_if_eq (tgt := 51) hx hb dX7_element_37 (by decide) (fun (c_11 : r_9 = 0) => ?_) (fun (c_11 : ¬ (r_9 = 0)) => ?_)
      · have u_12 := hq_10.2.2 c_11
        refine lv_lconst (v := 0) hx hb dX7_element_51 (by decide) ?_
        rw [hQ]
        exact W.lret (v := 0) hx hb hr (fun t ht hW => ⟨0, rfl, trivial, ht⟩) (fun q h => by cases h) dX7_element_52
      · have u_13 := hq_10.2.1 c_11
        refine lv_aload_n hx hb dX7_element_40 rfl (lv_at hl 0 rfl) ?_
        refine va_get (D := D) (ci := 7) (v := .ref (a 4)) (C := RX7) (T := TX7) (N := 29) hx hb htg ig_7 hown hK hP 0 (oh_wg (Nat.lt_of_lt_of_le (by decide) hn) (sM_0 hT)) rfl 3 (by decide) (htg _ q_976) (fun _ h9 => h9) rfl dX7_element_41 ?_
        refine lv_iload_n hx hb dX7_element_44 rfl (lv_at hl 1 rfl) ?_
        have n_14 : vp_in x1 8 := (rg_in (rg_il (rgL_i (rg_il (rnL_leu u_5.2 (rnL_lel u_5.1 (rgL_c (v := 0) (lo := 0) (hi := 0) (by decide)) (rgL_i (rg_any _))) (rgL_c (v := 7) (lo := 7) (hi := 7) (by decide)))))) (by decide))
        have b_15 : (x1).toNatClampNeg < 8 := vp_lt n_14
        refine th_aald hx hb hK hP 4 3 (Nat.lt_of_lt_of_le (by decide) hn) (sM_4 hT) rfl n_14 dX7_element_45 ?_
        refine lv_iload_n hx hb dX7_element_46 rfl (lv_at hl 2 rfl) ?_
        have n_16 : vp_in x2 40 := (rg_in (rg_il (rnL_leu u_13.2 (rgL_i (rg_il (rnL_lel u_13.1 (rgL_c (v := 0) (lo := 0) (hi := 0) (by decide)) (rgL_i (rg_any _))))) (rgL_i (rg_sub (lo := (-1)) (hi := 39) (tA_rdc (lo := 0) (hi := 40) (tM_3 hT0) n_8 (Nat.mod_one _) (by decide)) (rg_c (v := 1) (lo := 1) (hi := 1) (by decide)) (by decide))))) (by decide))
        refine th_lald hx hb hK hP (16 + (x1).toNatClampNeg) (lt_blk b_15 hn (by decide)) (hT.brows b_15) n_16 dX7_element_47 ?_
        refine lv_goto (tgt := 52) hx hb dX7_element_48 (by decide) ?_
        rw [hQ]
        exact W.lret (v := gb (C (16 + (x1).toNatClampNeg)) (x2).toNatClampNeg) hx hb hr (fun t ht hW => ⟨gb (C (16 + (x1).toNatClampNeg)) (x2).toNatClampNeg, rfl, trivial, ht⟩) (fun q h => by cases h) dX7_element_52

set_option maxHeartbeats 4000000 in
set_option maxRecDepth 100000 in
theorem c_X7_says (l : Launch) (D : va_G) (E : Nat → ClassId) (G : Nat → Nat) (sz : Nat) (a : Nat → Nat) (C : Nat → va_E) (n : Nat) (hn : 74 ≤ n) (hT : TyM a E C) (x1 : Int32) (x2 : Int32) (hR : RelM C) : Met l yX7_says (oh_w yX7_says cX7_says 4 (some .int)) ({ frames := 2, cells := 0, slots := 0, locals := 45 }) (oh_Pm D E G [.ref (a 0), .int x1, .int x2] (oh_W n a C) sz) (va_Qi (fun r (u : Nat → va_E) => TyM a E u ∧ fr [(8, 9)] [] C u ∧ (RelM u)) (oh_B D (va_A (oh_W n a C) sz) (fun u => oh_W n a u)) (va_A (oh_W n a C) sz)) 0 0 (va_A (oh_W n a C) sz) := by
  refine Met.ofW (cc := cX7_says) (maxL := 4) (ret := (some .int)) (by decide) rfl ?_
  intro p e s m args below meth c s₁ B hml hv
  obtain ⟨rfl, hsz, hP, hK, hD0, hG⟩ := hv
  have hx := B.exec
  have hb := B.bytes
  have hr := B.returns
  have hts := atoms_spec (ws := (oh_w yX7_says cX7_says 4 (some .int))) B.pre
  have htg : ∀ w ∈ oh_t, w.before _ s = true := fun w h => hts w (List.mem_cons_of_mem _ h)
  have hown : s.vm.findClass RX7 = some m.cls := findClass_of_methodNamed B.named
  have hlocks := B.notSynchronized
  have hT0 := hT
  subst hsz
  have hD := hD0.self (sz := s.heap.size)
  generalize hAe : va_A (oh_W n a C) s.heap.size = A at hD hG ⊢
  have hA : ∀ q : Nat, s.heap.size ≤ q → A q := fun q h => by rw [← hAe]; exact Or.inr h
  have hS : va_S A s.heap s.heap [] := va_S.rf
  have hF : fr [(8, 9)] [] C C := fr_rf
  have hl := lv_entry ([.ref (a 0), .int x1, .int x2]) (n := 4) (Nat.le_of_ble_eq_true rfl)
  rw [lg_entry_eq]
  generalize (lg_sl ([.ref (a 0), .int x1, .int x2]) ++ List.replicate (4 - (lg_sl ([.ref (a 0), .int x1, .int x2])).length) Slot.unset).toArray = ls at hl ⊢
  have hl : lv_has ls 4 [(0, .ref (a 0)), (1, .int x1), (2, .int x2)] := hl
  refine oh_genQ (fun Q hQ => ?_)
  refine lv_iload_n hx hb dX7_says_0 rfl (lv_at hl 1 rfl) ?_
  refine lv_i2l (v := Int32.toInt64 x1) hx hb dX7_says_1 (by rfl) ?_
  refine lv_lconst (v := 0) hx hb dX7_says_2 (by decide) ?_
  refine lv_ldc2 (v := 7) hx hb hown (htg _ q_1065) dX7_says_3 ?_
  refine tq_S (As := [.long (Int32.toInt64 x1), .long 0, .long 7]) (rest := []) (ws := []) ⟨hx, hb, hml, hown, htg⟩ (c_X7_in l D E G (Int32.toInt64 x1) (0 : Int64) (7 : Int64)) (va_cwS 3 htg (oh_gS q_1066 q_1067 q_73 q_1068) rfl rfl rfl pdX7_in ⟨Nat.le_of_ble_eq_true rfl, Nat.le_of_ble_eq_true rfl⟩) hK va_nil hG hS rfl hl.1 rfl (Nat.le_of_ble_eq_true rfl) dX7_says_6 ⟨Nat.le_of_ble_eq_true rfl, Nat.le_of_ble_eq_true rfl⟩ (fun r_1 hq_2 => ?_)
  refine lv_if_eq (tgt := 24) hx hb dX7_says_9 (by decide) (fun (c_3 : r_1 = 0) => ?_) (fun (c_3 : ¬ (r_1 = 0)) => ?_)
  · have u_4 := hq_2.2.2 c_3
    refine lv_aload_n hx hb dX7_says_24 rfl (lv_at hl 0 rfl) ?_
    refine lv_bipush (v := (-2)) hx hb dX7_says_25 (by decide) ?_
    refine tm_V (As := [.int (-2)]) (rest := []) ⟨hx, hb, hml, hown, htg⟩ (c_X7_refuse l D E G _ a C n hn hT ((-2) : Int32) (rg_w (rg_c (v := (-2)) (lo := (-2)) (hi := (-2)) (by decide)) (by decide))) (cwV 1 htg (oh_gV q_1071 q_1073 q_29 q_73 q_1074) rfl rfl rfl pdVX7_refuse ⟨Nat.le_of_ble_eq_true rfl, Nat.le_of_ble_eq_true rfl⟩) hK hP hD hG hS hA (va_recv hK hP (ci := 7) (q0 := 0) rfl (oh_wg (Nat.lt_of_lt_of_le (by decide) hn) (sM_0 hT))) rfl hl.1 rfl (Nat.le_of_ble_eq_true rfl) dX7_says_27 ⟨Nat.le_of_ble_eq_true rfl, Nat.le_of_ble_eq_true rfl⟩ (fun r_5 C_6 H locs hq_7 hP hD hS => ?_)
    obtain ⟨hT, f_8, hq_7⟩ := hq_7
    have hF := fr_tr hF f_8 (by decide) (by decide)
    refine W.widen (k := 0) (n := 0) (Nat.le_refl _) (Nat.le_refl _) ?_
    have t_9 := hT
    rw [hQ]
    exact W.iret (v := r_5) hx hb hr (fun t ht hW => ⟨⟨r_5, C_6, rfl, ⟨hT, hF, ⟨hR.1.fr hF (by decide), hR.2.fr hF (by decide)⟩⟩, ⟨by rw [ht]; exact hP, hD⟩⟩, hS.F ht⟩) hS.2.2 dX7_says_30
  · have u_10 := hq_2.2.1 c_3
    refine lv_iload_n hx hb dX7_says_12 rfl (lv_at hl 2 rfl) ?_
    refine lv_i2l (v := Int32.toInt64 x2) hx hb dX7_says_13 (by rfl) ?_
    refine lv_lconst (v := 0) hx hb dX7_says_14 (by decide) ?_
    refine lv_ldc2 (v := 5) hx hb hown (htg _ q_1106) dX7_says_15 ?_
    refine tq_S (As := [.long (Int32.toInt64 x2), .long 0, .long 5]) (rest := []) (ws := []) ⟨hx, hb, hml, hown, htg⟩ (c_X7_in l D E G (Int32.toInt64 x2) (0 : Int64) (5 : Int64)) (va_cwS 3 htg (oh_gS q_1066 q_1067 q_73 q_1068) rfl rfl rfl pdX7_in ⟨Nat.le_of_ble_eq_true rfl, Nat.le_of_ble_eq_true rfl⟩) hK va_nil hG hS rfl hl.1 rfl (Nat.le_of_ble_eq_true rfl) dX7_says_18 ⟨Nat.le_of_ble_eq_true rfl, Nat.le_of_ble_eq_true rfl⟩ (fun r_11 hq_12 => ?_)
    refine lv_if_ne (tgt := 31) hx hb dX7_says_21 (by decide) (fun (c_13 : ¬ (r_11 = 0)) => ?_) (fun (c_13 : r_11 = 0) => ?_)
    · have u_14 := hq_12.2.1 c_13
      refine lv_aload_n hx hb dX7_says_31 rfl (lv_at hl 0 rfl) ?_
      refine va_get (D := D) (ci := 7) (v := .ref (a 1)) (C := RX7) (T := TX7) (N := 29) hx hb htg ig_7 hown hK hP 0 (oh_wg (Nat.lt_of_lt_of_le (by decide) hn) (sM_0 hT)) rfl 0 (by decide) (htg _ q_973) (fun _ h9 => h9) rfl dX7_says_32 ?_
      refine lv_iload_n hx hb dX7_says_35 rfl (lv_at hl 1 rfl) ?_
      have n_15 : vp_in x1 8 := (rg_in (rg_il (rgL_i (rg_il (rnL_leu u_10.2 (rnL_lel u_10.1 (rgL_c (v := 0) (lo := 0) (hi := 0) (by decide)) (rgL_i (rg_any _))) (rgL_c (v := 7) (lo := 7) (hi := 7) (by decide)))))) (by decide))
      refine th_iald hx hb hK hP 1 (Nat.lt_of_lt_of_le (by decide) hn) (sM_1 hT) n_15 dX7_says_36 ?_
      refine lv_iconst (v := 1) hx hb dX7_says_37 (by decide) ?_
      refine lv_icmp_eq (tgt := 71) hx hb dX7_says_38 (by decide) (fun (c_16 : (ga (C 1) (x1).toNatClampNeg) = 1) => ?_) (fun (c_16 : ¬ ((ga (C 1) (x1).toNatClampNeg) = 1)) => ?_)
      · refine lv_aload_n hx hb dX7_says_71 rfl (lv_at hl 0 rfl) ?_
        refine lv_bipush (v := (-3)) hx hb dX7_says_72 (by decide) ?_
        refine tm_V (As := [.int (-3)]) (rest := []) ⟨hx, hb, hml, hown, htg⟩ (c_X7_refuse l D E G _ a C n hn hT ((-3) : Int32) (rg_w (rg_c (v := (-3)) (lo := (-3)) (hi := (-3)) (by decide)) (by decide))) (cwV 1 htg (oh_gV q_1071 q_1073 q_29 q_73 q_1074) rfl rfl rfl pdVX7_refuse ⟨Nat.le_of_ble_eq_true rfl, Nat.le_of_ble_eq_true rfl⟩) hK hP hD hG hS hA (va_recv hK hP (ci := 7) (q0 := 0) rfl (oh_wg (Nat.lt_of_lt_of_le (by decide) hn) (sM_0 hT))) rfl hl.1 rfl (Nat.le_of_ble_eq_true rfl) dX7_says_74 ⟨Nat.le_of_ble_eq_true rfl, Nat.le_of_ble_eq_true rfl⟩ (fun r_17 C_18 H locs hq_19 hP hD hS => ?_)
        obtain ⟨hT, f_20, hq_19⟩ := hq_19
        have hF := fr_tr hF f_20 (by decide) (by decide)
        refine W.widen (k := 0) (n := 0) (Nat.le_refl _) (Nat.le_refl _) ?_
        have t_21 := hT
        rw [hQ]
        exact W.iret (v := r_17) hx hb hr (fun t ht hW => ⟨⟨r_17, C_18, rfl, ⟨hT, hF, ⟨hR.1.fr hF (by decide), hR.2.fr hF (by decide)⟩⟩, ⟨by rw [ht]; exact hP, hD⟩⟩, hS.F ht⟩) hS.2.2 dX7_says_77
      · refine lv_aload_n hx hb dX7_says_41 rfl (lv_at hl 0 rfl) ?_
        refine va_get (D := D) (ci := 7) (v := .ref (a 1)) (C := RX7) (T := TX7) (N := 29) hx hb htg ig_7 hown hK hP 0 (oh_wg (Nat.lt_of_lt_of_le (by decide) hn) (sM_0 hT)) rfl 0 (by decide) (htg _ q_973) (fun _ h9 => h9) rfl dX7_says_42 ?_
        refine lv_iload_n hx hb dX7_says_45 rfl (lv_at hl 1 rfl) ?_
        have n_22 : vp_in x1 8 := (rg_in (rg_il (rgL_i (rg_il (rnL_leu u_10.2 (rnL_lel u_10.1 (rgL_c (v := 0) (lo := 0) (hi := 0) (by decide)) (rgL_i (rg_any _))) (rgL_c (v := 7) (lo := 7) (hi := 7) (by decide)))))) (by decide))
        refine th_iald hx hb hK hP 1 (Nat.lt_of_lt_of_le (by decide) hn) (sM_1 hT) n_22 dX7_says_46 ?_
        refine lv_iconst (v := 2) hx hb dX7_says_47 (by decide) ?_
        refine lv_icmp_ne (tgt := 78) hx hb dX7_says_48 (by decide) (fun (c_23 : ¬ ((ga (C 1) (x1).toNatClampNeg) = 2)) => ?_) (fun (c_23 : (ga (C 1) (x1).toNatClampNeg) = 2) => ?_)
        · refine lv_aload_n hx hb dX7_says_78 rfl (lv_at hl 0 rfl) ?_
          refine va_get (D := D) (ci := 7) (v := .ref (a 1)) (C := RX7) (T := TX7) (N := 29) hx hb htg ig_7 hown hK hP 0 (oh_wg (Nat.lt_of_lt_of_le (by decide) hn) (sM_0 hT)) rfl 0 (by decide) (htg _ q_973) (fun _ h9 => h9) rfl dX7_says_79 ?_
          refine lv_iload_n hx hb dX7_says_82 rfl (lv_at hl 1 rfl) ?_
          have n_24 : vp_in x1 8 := (rg_in (rg_il (rgL_i (rg_il (rnL_leu u_10.2 (rnL_lel u_10.1 (rgL_c (v := 0) (lo := 0) (hi := 0) (by decide)) (rgL_i (rg_any _))) (rgL_c (v := 7) (lo := 7) (hi := 7) (by decide)))))) (by decide))
          refine th_iald hx hb hK hP 1 (Nat.lt_of_lt_of_le (by decide) hn) (sM_1 hT) n_24 dX7_says_83 ?_
          refine lv_if_ne (tgt := 94) hx hb dX7_says_84 (by decide) (fun (c_25 : ¬ ((ga (C 1) (x1).toNatClampNeg) = 0)) => ?_) (fun (c_25 : (ga (C 1) (x1).toNatClampNeg) = 0) => ?_)
          · exact (rg_no (rn_nel (l' := 3) c_23 (rn_nel (l' := 2) c_16 (rn_neu (u' := (-1)) c_25 (rn_neu (u' := 0) c_16 (rn_nel (l' := 1) c_25 (rn_neu (u' := 1) c_23 (tA_rdc (lo := 0) (hi := 2) (tM_1 hT0) n_24 (Nat.mod_one _) (by decide)) (rg_c (v := 2) (lo := 2) (hi := 2) (by decide)) (by decide)) (rg_c (v := 0) (lo := 0) (hi := 0) (by decide)) (by decide)) (rg_c (v := 1) (lo := 1) (hi := 1) (by decide)) (by decide)) (rg_c (v := 0) (lo := 0) (hi := 0) (by decide)) (by decide)) (rg_c (v := 1) (lo := 1) (hi := 1) (by decide)) (by decide)) (rg_c (v := 2) (lo := 2) (hi := 2) (by decide)) (by decide)) (by decide)).elim
          · refine lv_aload_n hx hb dX7_says_87 rfl (lv_at hl 0 rfl) ?_
            refine lv_bipush (v := (-4)) hx hb dX7_says_88 (by decide) ?_
            refine tm_V (As := [.int (-4)]) (rest := []) ⟨hx, hb, hml, hown, htg⟩ (c_X7_refuse l D E G _ a C n hn hT ((-4) : Int32) (rg_w (rg_c (v := (-4)) (lo := (-4)) (hi := (-4)) (by decide)) (by decide))) (cwV 1 htg (oh_gV q_1071 q_1073 q_29 q_73 q_1074) rfl rfl rfl pdVX7_refuse ⟨Nat.le_of_ble_eq_true rfl, Nat.le_of_ble_eq_true rfl⟩) hK hP hD hG hS hA (va_recv hK hP (ci := 7) (q0 := 0) rfl (oh_wg (Nat.lt_of_lt_of_le (by decide) hn) (sM_0 hT))) rfl hl.1 rfl (Nat.le_of_ble_eq_true rfl) dX7_says_90 ⟨Nat.le_of_ble_eq_true rfl, Nat.le_of_ble_eq_true rfl⟩ (fun r_26 C_27 H locs hq_28 hP hD hS => ?_)
            obtain ⟨hT, f_29, hq_28⟩ := hq_28
            have hF := fr_tr hF f_29 (by decide) (by decide)
            refine W.widen (k := 0) (n := 0) (Nat.le_refl _) (Nat.le_refl _) ?_
            have t_30 := hT
            rw [hQ]
            exact W.iret (v := r_26) hx hb hr (fun t ht hW => ⟨⟨r_26, C_27, rfl, ⟨hT, hF, ⟨hR.1.fr hF (by decide), hR.2.fr hF (by decide)⟩⟩, ⟨by rw [ht]; exact hP, hD⟩⟩, hS.F ht⟩) hS.2.2 dX7_says_93
        · refine lv_aload_n hx hb dX7_says_51 rfl (lv_at hl 0 rfl) ?_
          refine va_get (D := D) (ci := 7) (v := .ref (a 10)) (C := RX7) (T := TX7) (N := 29) hx hb htg ig_7 hown hK hP 0 (oh_wg (Nat.lt_of_lt_of_le (by decide) hn) (sM_0 hT)) rfl 12 (by decide) (htg _ q_985) (fun _ h9 => h9) rfl dX7_says_52 ?_
          refine lv_aload_n hx hb dX7_says_55 rfl (lv_at hl 0 rfl) ?_
          refine va_get (D := D) (ci := 7) (v := .ref (a 6)) (C := RX7) (T := TX7) (N := 29) hx hb htg ig_7 hown hK hP 0 (oh_wg (Nat.lt_of_lt_of_le (by decide) hn) (sM_0 hT)) rfl 5 (by decide) (htg _ q_978) (fun _ h9 => h9) rfl dX7_says_56 ?_
          refine lv_iload_n hx hb dX7_says_59 rfl (lv_at hl 1 rfl) ?_
          have n_31 : vp_in x1 8 := (rg_in (rg_il (rgL_i (rg_il (rnL_leu u_10.2 (rnL_lel u_10.1 (rgL_c (v := 0) (lo := 0) (hi := 0) (by decide)) (rgL_i (rg_any _))) (rgL_c (v := 7) (lo := 7) (hi := 7) (by decide)))))) (by decide))
          refine th_iald hx hb hK hP 6 (Nat.lt_of_lt_of_le (by decide) hn) (sM_6 hT) n_31 dX7_says_60 ?_
          have n_32 : vp_in (ga (C 6) (x1).toNatClampNeg) 16 := (rg_in (oh_shown hT0 hR (rg_w (rg_il (rgL_i (rg_il (rnL_leu u_10.2 (rnL_lel u_10.1 (rgL_c (v := 0) (lo := 0) (hi := 0) (by decide)) (rgL_i (rg_any _))) (rgL_c (v := 7) (lo := 7) (hi := 7) (by decide)))))) (by decide)) (rg_in (rg_il (rgL_i (rg_il (rnL_leu u_10.2 (rnL_lel u_10.1 (rgL_c (v := 0) (lo := 0) (hi := 0) (by decide)) (rgL_i (rg_any _))) (rgL_c (v := 7) (lo := 7) (hi := 7) (by decide)))))) (by decide)) c_23) (by decide))
          have b_33 : (ga (C 6) (x1).toNatClampNeg).toNatClampNeg < 16 := vp_lt n_32
          refine th_aald hx hb hK hP 10 2 (Nat.lt_of_lt_of_le (by decide) hn) (sM_10 hT) rfl n_32 dX7_says_61 ?_
          refine lv_iconst (v := 1) hx hb dX7_says_62 (by decide) ?_
          refine th_iald hx hb hK hP (48 + (ga (C 6) (x1).toNatClampNeg).toNatClampNeg) (lt_blk b_33 hn (by decide)) (hT.bbridge b_33).1 (rg_in (rg_c (v := 1) (lo := 1) (hi := 1) (by decide)) (by decide)) dX7_says_63 ?_
          refine lv_iload_n hx hb dX7_says_64 rfl (lv_at hl 2 rfl) ?_
          refine tq_S (As := [.int (ga (C (48 + (ga (C 6) (x1).toNatClampNeg).toNatClampNeg)) ((1 : Int32)).toNatClampNeg), .int x2]) (rest := []) (ws := []) ⟨hx, hb, hml, hown, htg⟩ (c_X7_isUnder l D E G (ga (C (48 + (ga (C 6) (x1).toNatClampNeg).toNatClampNeg)) ((1 : Int32)).toNatClampNeg) x2) (va_cwS 2 htg (oh_gS q_1107 q_1108 q_73 q_1109) rfl rfl rfl pdX7_isUnder ⟨Nat.le_of_ble_eq_true rfl, Nat.le_of_ble_eq_true rfl⟩) hK va_nil hG hS rfl hl.1 rfl (Nat.le_of_ble_eq_true rfl) dX7_says_65 ⟨Nat.le_of_ble_eq_true rfl, Nat.le_of_ble_eq_true rfl⟩ (fun r_34 hq_35 => ?_)
          refine lv_if_ne (tgt := 78) hx hb dX7_says_68 (by decide) (fun (c_36 : ¬ (r_34 = 0)) => ?_) (fun (c_36 : r_34 = 0) => ?_)
          · refine lv_aload_n hx hb dX7_says_78 rfl (lv_at hl 0 rfl) ?_
            refine va_get (D := D) (ci := 7) (v := .ref (a 1)) (C := RX7) (T := TX7) (N := 29) hx hb htg ig_7 hown hK hP 0 (oh_wg (Nat.lt_of_lt_of_le (by decide) hn) (sM_0 hT)) rfl 0 (by decide) (htg _ q_973) (fun _ h9 => h9) rfl dX7_says_79 ?_
            refine lv_iload_n hx hb dX7_says_82 rfl (lv_at hl 1 rfl) ?_
            have n_37 : vp_in x1 8 := (rg_in (rg_il (rgL_i (rg_il (rnL_leu u_10.2 (rnL_lel u_10.1 (rgL_c (v := 0) (lo := 0) (hi := 0) (by decide)) (rgL_i (rg_any _))) (rgL_c (v := 7) (lo := 7) (hi := 7) (by decide)))))) (by decide))
            refine th_iald hx hb hK hP 1 (Nat.lt_of_lt_of_le (by decide) hn) (sM_1 hT) n_37 dX7_says_83 ?_
            refine lv_if_ne (tgt := 94) hx hb dX7_says_84 (by decide) (fun (c_38 : ¬ ((ga (C 1) (x1).toNatClampNeg) = 0)) => ?_) (fun (c_38 : (ga (C 1) (x1).toNatClampNeg) = 0) => ?_)
            · refine lv_aload_n hx hb dX7_says_94 rfl (lv_at hl 0 rfl) ?_
              refine va_get (D := D) (ci := 7) (v := .ref (a 6)) (C := RX7) (T := TX7) (N := 29) hx hb htg ig_7 hown hK hP 0 (oh_wg (Nat.lt_of_lt_of_le (by decide) hn) (sM_0 hT)) rfl 5 (by decide) (htg _ q_978) (fun _ h9 => h9) rfl dX7_says_95 ?_
              refine lv_iload_n hx hb dX7_says_98 rfl (lv_at hl 1 rfl) ?_
              have n_39 : vp_in x1 8 := (rg_in (rg_il (rgL_i (rg_il (rnL_leu u_10.2 (rnL_lel u_10.1 (rgL_c (v := 0) (lo := 0) (hi := 0) (by decide)) (rgL_i (rg_any _))) (rgL_c (v := 7) (lo := 7) (hi := 7) (by decide)))))) (by decide))
              refine th_iald hx hb hK hP 6 (Nat.lt_of_lt_of_le (by decide) hn) (sM_6 hT) n_39 dX7_says_99 ?_
              refine lv_istore_n (lv' := [(3, .int (ga (C 6) (x1).toNatClampNeg)), (0, .ref (a 0)), (1, .int x1), (2, .int x2)]) hx hb dX7_says_100 rfl hl (by decide) rfl (fun ls hl => ?_)
              refine lv_iload_n hx hb dX7_says_101 rfl (lv_at hl 3 rfl) ?_
              by_cases c_40 : x2 = 0
              · refine lv_tableIn (off := 34) (tgt := 136) hx hb dX7_says_102 (by rw [c_40]; decide) (by rw [c_40]; decide) (by rw [c_40]; decide) (by decide) ?_
                refine lv_aload_n hx hb dX7_says_136 rfl (lv_at hl 1 rfl) ?_
                refine va_get (D := D) (ci := 7) (v := .ref (a 10)) (C := RX7) (T := TX7) (N := 29) hx hb htg ig_7 hown hK hP 0 (oh_wg (Nat.lt_of_lt_of_le (by decide) hn) (sM_0 hT)) rfl 12 (by decide) (htg _ q_985) (fun _ h9 => h9) rfl dX7_says_137 ?_
                refine lv_iload_n hx hb dX7_says_140 rfl (lv_at hl 0 rfl) ?_
                have n_41 : vp_in (ga (C 6) (x1).toNatClampNeg) 16 := (rg_in (oh_shown hT0 hR (rg_w (rg_il (rgL_i (rg_il (rnL_leu u_10.2 (rnL_lel u_10.1 (rgL_c (v := 0) (lo := 0) (hi := 0) (by decide)) (rgL_i (rg_any _))) (rgL_c (v := 7) (lo := 7) (hi := 7) (by decide)))))) (by decide)) (rg_in (rg_il (rgL_i (rg_il (rnL_leu u_10.2 (rnL_lel u_10.1 (rgL_c (v := 0) (lo := 0) (hi := 0) (by decide)) (rgL_i (rg_any _))) (rgL_c (v := 7) (lo := 7) (hi := 7) (by decide)))))) (by decide)) c_23) (by decide))
                have b_42 : (ga (C 6) (x1).toNatClampNeg).toNatClampNeg < 16 := vp_lt n_41
                refine th_aald hx hb hK hP 10 2 (Nat.lt_of_lt_of_le (by decide) hn) (sM_10 hT) rfl n_41 dX7_says_141 ?_
                refine lv_iconst (v := 0) hx hb dX7_says_142 (by decide) ?_
                refine th_iald hx hb hK hP (48 + (ga (C 6) (x1).toNatClampNeg).toNatClampNeg) (lt_blk b_42 hn (by decide)) (hT.bbridge b_42).1 (rg_in (rg_c (v := 0) (lo := 0) (hi := 0) (by decide)) (by decide)) dX7_says_143 ?_
                rw [hQ]
                exact W.iret (v := ga (C (48 + (ga (C 6) (x1).toNatClampNeg).toNatClampNeg)) ((0 : Int32)).toNatClampNeg) hx hb hr (fun t ht hW => ⟨⟨ga (C (48 + (ga (C 6) (x1).toNatClampNeg).toNatClampNeg)) ((0 : Int32)).toNatClampNeg, C, rfl, ⟨hT, hF, hR⟩, ⟨by rw [ht]; exact hP, hD⟩⟩, hS.F ht⟩) hS.2.2 dX7_says_144
              · by_cases c_43 : x2 = 1
                · refine lv_tableIn (off := 43) (tgt := 145) hx hb dX7_says_102 (by rw [c_43]; decide) (by rw [c_43]; decide) (by rw [c_43]; decide) (by decide) ?_
                  refine lv_aload_n hx hb dX7_says_145 rfl (lv_at hl 1 rfl) ?_
                  refine lv_iload_n hx hb dX7_says_146 rfl (lv_at hl 0 rfl) ?_
                  refine tq_V (As := [.int (ga (C 6) (x1).toNatClampNeg)]) (rest := []) (ws := (oh_W n a C)) ⟨hx, hb, hml, hown, htg⟩ (c_X7_axleOf l D E G a C n hn hT (ga (C 6) (x1).toNatClampNeg) (rg_w (oh_shown hT0 hR (rg_w (rg_il (rgL_i (rg_il (rnL_leu u_10.2 (rnL_lel u_10.1 (rgL_c (v := 0) (lo := 0) (hi := 0) (by decide)) (rgL_i (rg_any _))) (rgL_c (v := 7) (lo := 7) (hi := 7) (by decide)))))) (by decide)) (rg_in (rg_il (rgL_i (rg_il (rnL_leu u_10.2 (rnL_lel u_10.1 (rgL_c (v := 0) (lo := 0) (hi := 0) (by decide)) (rgL_i (rg_any _))) (rgL_c (v := 7) (lo := 7) (hi := 7) (by decide)))))) (by decide)) c_23) (by decide))) (cwV 1 htg (oh_gV q_1110 q_1112 q_31 q_73 q_1113) rfl rfl rfl pdVX7_axleOf ⟨Nat.le_of_ble_eq_true rfl, Nat.le_of_ble_eq_true rfl⟩) hK hP hG hS (va_recv hK hP (ci := 7) (q0 := 0) rfl (oh_wg (Nat.lt_of_lt_of_le (by decide) hn) (sM_0 hT))) rfl hl.1 rfl (Nat.le_of_ble_eq_true rfl) dX7_says_147 ⟨Nat.le_of_ble_eq_true rfl, Nat.le_of_ble_eq_true rfl⟩ (fun r_44 hq_45 => ?_)
                  rw [hQ]
                  exact W.iret (v := r_44) hx hb hr (fun t ht hW => ⟨⟨r_44, C, rfl, ⟨hT, hF, hR⟩, ⟨by rw [ht]; exact hP, hD⟩⟩, hS.F ht⟩) hS.2.2 dX7_says_150
                · by_cases c_46 : x2 = 2
                  · refine lv_tableIn (off := 43) (tgt := 145) hx hb dX7_says_102 (by rw [c_46]; decide) (by rw [c_46]; decide) (by rw [c_46]; decide) (by decide) ?_
                    refine lv_aload_n hx hb dX7_says_145 rfl (lv_at hl 1 rfl) ?_
                    refine lv_iload_n hx hb dX7_says_146 rfl (lv_at hl 0 rfl) ?_
                    refine tq_V (As := [.int (ga (C 6) (x1).toNatClampNeg)]) (rest := []) (ws := (oh_W n a C)) ⟨hx, hb, hml, hown, htg⟩ (c_X7_axleOf l D E G a C n hn hT (ga (C 6) (x1).toNatClampNeg) (rg_w (oh_shown hT0 hR (rg_w (rg_il (rgL_i (rg_il (rnL_leu u_10.2 (rnL_lel u_10.1 (rgL_c (v := 0) (lo := 0) (hi := 0) (by decide)) (rgL_i (rg_any _))) (rgL_c (v := 7) (lo := 7) (hi := 7) (by decide)))))) (by decide)) (rg_in (rg_il (rgL_i (rg_il (rnL_leu u_10.2 (rnL_lel u_10.1 (rgL_c (v := 0) (lo := 0) (hi := 0) (by decide)) (rgL_i (rg_any _))) (rgL_c (v := 7) (lo := 7) (hi := 7) (by decide)))))) (by decide)) c_23) (by decide))) (cwV 1 htg (oh_gV q_1110 q_1112 q_31 q_73 q_1113) rfl rfl rfl pdVX7_axleOf ⟨Nat.le_of_ble_eq_true rfl, Nat.le_of_ble_eq_true rfl⟩) hK hP hG hS (va_recv hK hP (ci := 7) (q0 := 0) rfl (oh_wg (Nat.lt_of_lt_of_le (by decide) hn) (sM_0 hT))) rfl hl.1 rfl (Nat.le_of_ble_eq_true rfl) dX7_says_147 ⟨Nat.le_of_ble_eq_true rfl, Nat.le_of_ble_eq_true rfl⟩ (fun r_47 hq_48 => ?_)
                    rw [hQ]
                    exact W.iret (v := r_47) hx hb hr (fun t ht hW => ⟨⟨r_47, C, rfl, ⟨hT, hF, hR⟩, ⟨by rw [ht]; exact hP, hD⟩⟩, hS.F ht⟩) hS.2.2 dX7_says_150
                  · by_cases c_49 : x2 = 3
                    · refine lv_tableIn (off := 49) (tgt := 151) hx hb dX7_says_102 (by rw [c_49]; decide) (by rw [c_49]; decide) (by rw [c_49]; decide) (by decide) ?_
                      refine lv_aload_n hx hb dX7_says_151 rfl (lv_at hl 1 rfl) ?_
                      refine va_get (D := D) (ci := 7) (v := .ref (a 10)) (C := RX7) (T := TX7) (N := 29) hx hb htg ig_7 hown hK hP 0 (oh_wg (Nat.lt_of_lt_of_le (by decide) hn) (sM_0 hT)) rfl 12 (by decide) (htg _ q_985) (fun _ h9 => h9) rfl dX7_says_152 ?_
                      refine lv_iload_n hx hb dX7_says_155 rfl (lv_at hl 0 rfl) ?_
                      have n_50 : vp_in (ga (C 6) (x1).toNatClampNeg) 16 := (rg_in (oh_shown hT0 hR (rg_w (rg_il (rgL_i (rg_il (rnL_leu u_10.2 (rnL_lel u_10.1 (rgL_c (v := 0) (lo := 0) (hi := 0) (by decide)) (rgL_i (rg_any _))) (rgL_c (v := 7) (lo := 7) (hi := 7) (by decide)))))) (by decide)) (rg_in (rg_il (rgL_i (rg_il (rnL_leu u_10.2 (rnL_lel u_10.1 (rgL_c (v := 0) (lo := 0) (hi := 0) (by decide)) (rgL_i (rg_any _))) (rgL_c (v := 7) (lo := 7) (hi := 7) (by decide)))))) (by decide)) c_23) (by decide))
                      have b_51 : (ga (C 6) (x1).toNatClampNeg).toNatClampNeg < 16 := vp_lt n_50
                      refine th_aald hx hb hK hP 10 2 (Nat.lt_of_lt_of_le (by decide) hn) (sM_10 hT) rfl n_50 dX7_says_156 ?_
                      refine lv_iconst (v := 2) hx hb dX7_says_157 (by decide) ?_
                      refine th_iald hx hb hK hP (48 + (ga (C 6) (x1).toNatClampNeg).toNatClampNeg) (lt_blk b_51 hn (by decide)) (hT.bbridge b_51).1 (rg_in (rg_c (v := 2) (lo := 2) (hi := 2) (by decide)) (by decide)) dX7_says_158 ?_
                      rw [hQ]
                      exact W.iret (v := ga (C (48 + (ga (C 6) (x1).toNatClampNeg).toNatClampNeg)) ((2 : Int32)).toNatClampNeg) hx hb hr (fun t ht hW => ⟨⟨ga (C (48 + (ga (C 6) (x1).toNatClampNeg).toNatClampNeg)) ((2 : Int32)).toNatClampNeg, C, rfl, ⟨hT, hF, hR⟩, ⟨by rw [ht]; exact hP, hD⟩⟩, hS.F ht⟩) hS.2.2 dX7_says_159
                    · by_cases c_52 : x2 = 4
                      · refine lv_tableIn (off := 58) (tgt := 160) hx hb dX7_says_102 (by rw [c_52]; decide) (by rw [c_52]; decide) (by rw [c_52]; decide) (by decide) ?_
                        refine lv_aload_n hx hb dX7_says_160 rfl (lv_at hl 1 rfl) ?_
                        refine va_get (D := D) (ci := 7) (v := .ref (a 10)) (C := RX7) (T := TX7) (N := 29) hx hb htg ig_7 hown hK hP 0 (oh_wg (Nat.lt_of_lt_of_le (by decide) hn) (sM_0 hT)) rfl 12 (by decide) (htg _ q_985) (fun _ h9 => h9) rfl dX7_says_161 ?_
                        refine lv_iload_n hx hb dX7_says_164 rfl (lv_at hl 0 rfl) ?_
                        have n_53 : vp_in (ga (C 6) (x1).toNatClampNeg) 16 := (rg_in (oh_shown hT0 hR (rg_w (rg_il (rgL_i (rg_il (rnL_leu u_10.2 (rnL_lel u_10.1 (rgL_c (v := 0) (lo := 0) (hi := 0) (by decide)) (rgL_i (rg_any _))) (rgL_c (v := 7) (lo := 7) (hi := 7) (by decide)))))) (by decide)) (rg_in (rg_il (rgL_i (rg_il (rnL_leu u_10.2 (rnL_lel u_10.1 (rgL_c (v := 0) (lo := 0) (hi := 0) (by decide)) (rgL_i (rg_any _))) (rgL_c (v := 7) (lo := 7) (hi := 7) (by decide)))))) (by decide)) c_23) (by decide))
                        have b_54 : (ga (C 6) (x1).toNatClampNeg).toNatClampNeg < 16 := vp_lt n_53
                        refine th_aald hx hb hK hP 10 2 (Nat.lt_of_lt_of_le (by decide) hn) (sM_10 hT) rfl n_53 dX7_says_165 ?_
                        refine lv_bipush (v := 9) hx hb dX7_says_166 (by decide) ?_
                        refine th_iald hx hb hK hP (48 + (ga (C 6) (x1).toNatClampNeg).toNatClampNeg) (lt_blk b_54 hn (by decide)) (hT.bbridge b_54).1 (rg_in (rg_c (v := 9) (lo := 9) (hi := 9) (by decide)) (by decide)) dX7_says_168 ?_
                        rw [hQ]
                        exact W.iret (v := ga (C (48 + (ga (C 6) (x1).toNatClampNeg).toNatClampNeg)) ((9 : Int32)).toNatClampNeg) hx hb hr (fun t ht hW => ⟨⟨ga (C (48 + (ga (C 6) (x1).toNatClampNeg).toNatClampNeg)) ((9 : Int32)).toNatClampNeg, C, rfl, ⟨hT, hF, hR⟩, ⟨by rw [ht]; exact hP, hD⟩⟩, hS.F ht⟩) hS.2.2 dX7_says_169
                      · refine lv_tableOut (tgt := 170) hx hb dX7_says_102 (by have h9 := And.intro (oh_ne c_40 (k := 0) (by decide)) (And.intro (oh_ne c_43 (k := 1) (by decide)) (And.intro (oh_ne c_46 (k := 2) (by decide)) (And.intro (oh_ne c_49 (k := 3) (by decide)) (And.intro (oh_ne c_52 (k := 4) (by decide)) trivial)))); omega) (by decide) ?_
                        refine lv_aload_n hx hb dX7_says_170 rfl (lv_at hl 1 rfl) ?_
                        refine lv_iload_n hx hb dX7_says_171 rfl (lv_at hl 0 rfl) ?_
                        refine lv_aload_n hx hb dX7_says_172 rfl (lv_at hl 1 rfl) ?_
                        refine va_get (D := D) (ci := 7) (v := .ref (a 10)) (C := RX7) (T := TX7) (N := 29) hx hb htg ig_7 hown hK hP 0 (oh_wg (Nat.lt_of_lt_of_le (by decide) hn) (sM_0 hT)) rfl 12 (by decide) (htg _ q_985) (fun _ h9 => h9) rfl dX7_says_173 ?_
                        refine lv_iload_n hx hb dX7_says_176 rfl (lv_at hl 0 rfl) ?_
                        have n_55 : vp_in (ga (C 6) (x1).toNatClampNeg) 16 := (rg_in (oh_shown hT0 hR (rg_w (rg_il (rgL_i (rg_il (rnL_leu u_10.2 (rnL_lel u_10.1 (rgL_c (v := 0) (lo := 0) (hi := 0) (by decide)) (rgL_i (rg_any _))) (rgL_c (v := 7) (lo := 7) (hi := 7) (by decide)))))) (by decide)) (rg_in (rg_il (rgL_i (rg_il (rnL_leu u_10.2 (rnL_lel u_10.1 (rgL_c (v := 0) (lo := 0) (hi := 0) (by decide)) (rgL_i (rg_any _))) (rgL_c (v := 7) (lo := 7) (hi := 7) (by decide)))))) (by decide)) c_23) (by decide))
                        have b_56 : (ga (C 6) (x1).toNatClampNeg).toNatClampNeg < 16 := vp_lt n_55
                        refine th_aald hx hb hK hP 10 2 (Nat.lt_of_lt_of_le (by decide) hn) (sM_10 hT) rfl n_55 dX7_says_177 ?_
                        refine lv_bipush (v := 7) hx hb dX7_says_178 (by decide) ?_
                        refine th_iald hx hb hK hP (48 + (ga (C 6) (x1).toNatClampNeg).toNatClampNeg) (lt_blk b_56 hn (by decide)) (hT.bbridge b_56).1 (rg_in (rg_c (v := 7) (lo := 7) (hi := 7) (by decide)) (by decide)) dX7_says_180 ?_
                        refine lv_iconst (v := 1) hx hb dX7_says_181 (by decide) ?_
                        refine lv_icmp_ne (tgt := 189) hx hb dX7_says_182 (by decide) (fun (c_57 : ¬ ((ga (C (48 + (ga (C 6) (x1).toNatClampNeg).toNatClampNeg)) ((7 : Int32)).toNatClampNeg) = 1)) => ?_) (fun (c_57 : (ga (C (48 + (ga (C 6) (x1).toNatClampNeg).toNatClampNeg)) ((7 : Int32)).toNatClampNeg) = 1) => ?_)
                        · refine lv_iconst (v := 0) hx hb dX7_says_189 (by decide) ?_
                          refine tq_V (As := [.int (ga (C 6) (x1).toNatClampNeg), .int 0]) (rest := []) (ws := (oh_W n a C)) ⟨hx, hb, hml, hown, htg⟩ (c_X7_allOf l D E G a C n hn hT (ga (C 6) (x1).toNatClampNeg) (0 : Int32) (rg_w (oh_shown hT0 hR (rg_w (rg_il (rgL_i (rg_il (rnL_leu u_10.2 (rnL_lel u_10.1 (rgL_c (v := 0) (lo := 0) (hi := 0) (by decide)) (rgL_i (rg_any _))) (rgL_c (v := 7) (lo := 7) (hi := 7) (by decide)))))) (by decide)) (rg_in (rg_il (rgL_i (rg_il (rnL_leu u_10.2 (rnL_lel u_10.1 (rgL_c (v := 0) (lo := 0) (hi := 0) (by decide)) (rgL_i (rg_any _))) (rgL_c (v := 7) (lo := 7) (hi := 7) (by decide)))))) (by decide)) c_23) (by decide)) (rg_w (rg_c (v := 0) (lo := 0) (hi := 0) (by decide)) (by decide))) (cwV 2 htg (oh_gV q_1122 q_1124 q_34 q_73 q_1125) rfl rfl rfl pdVX7_allOf ⟨Nat.le_of_ble_eq_true rfl, Nat.le_of_ble_eq_true rfl⟩) hK hP hG hS (va_recv hK hP (ci := 7) (q0 := 0) rfl (oh_wg (Nat.lt_of_lt_of_le (by decide) hn) (sM_0 hT))) rfl hl.1 rfl (Nat.le_of_ble_eq_true rfl) dX7_says_190 ⟨Nat.le_of_ble_eq_true rfl, Nat.le_of_ble_eq_true rfl⟩ (fun r_58 hq_59 => ?_)
                          rw [hQ]
                          exact W.iret (v := r_58) hx hb hr (fun t ht hW => ⟨⟨r_58, C, rfl, ⟨hT, hF, hR⟩, ⟨by rw [ht]; exact hP, hD⟩⟩, hS.F ht⟩) hS.2.2 dX7_says_193
                        · refine lv_iconst (v := 1) hx hb dX7_says_185 (by decide) ?_
                          refine lv_goto (tgt := 190) hx hb dX7_says_186 (by decide) ?_
                          refine tq_V (As := [.int (ga (C 6) (x1).toNatClampNeg), .int 1]) (rest := []) (ws := (oh_W n a C)) ⟨hx, hb, hml, hown, htg⟩ (c_X7_allOf l D E G a C n hn hT (ga (C 6) (x1).toNatClampNeg) (1 : Int32) (rg_w (oh_shown hT0 hR (rg_w (rg_il (rgL_i (rg_il (rnL_leu u_10.2 (rnL_lel u_10.1 (rgL_c (v := 0) (lo := 0) (hi := 0) (by decide)) (rgL_i (rg_any _))) (rgL_c (v := 7) (lo := 7) (hi := 7) (by decide)))))) (by decide)) (rg_in (rg_il (rgL_i (rg_il (rnL_leu u_10.2 (rnL_lel u_10.1 (rgL_c (v := 0) (lo := 0) (hi := 0) (by decide)) (rgL_i (rg_any _))) (rgL_c (v := 7) (lo := 7) (hi := 7) (by decide)))))) (by decide)) c_23) (by decide)) (rg_w (rg_c (v := 1) (lo := 1) (hi := 1) (by decide)) (by decide))) (cwV 2 htg (oh_gV q_1122 q_1124 q_34 q_73 q_1125) rfl rfl rfl pdVX7_allOf ⟨Nat.le_of_ble_eq_true rfl, Nat.le_of_ble_eq_true rfl⟩) hK hP hG hS (va_recv hK hP (ci := 7) (q0 := 0) rfl (oh_wg (Nat.lt_of_lt_of_le (by decide) hn) (sM_0 hT))) rfl hl.1 rfl (Nat.le_of_ble_eq_true rfl) dX7_says_190 ⟨Nat.le_of_ble_eq_true rfl, Nat.le_of_ble_eq_true rfl⟩ (fun r_60 hq_61 => ?_)
                          rw [hQ]
                          exact W.iret (v := r_60) hx hb hr (fun t ht hW => ⟨⟨r_60, C, rfl, ⟨hT, hF, hR⟩, ⟨by rw [ht]; exact hP, hD⟩⟩, hS.F ht⟩) hS.2.2 dX7_says_193
            · refine lv_aload_n hx hb dX7_says_87 rfl (lv_at hl 0 rfl) ?_
              refine lv_bipush (v := (-4)) hx hb dX7_says_88 (by decide) ?_
              refine tm_V (As := [.int (-4)]) (rest := []) ⟨hx, hb, hml, hown, htg⟩ (c_X7_refuse l D E G _ a C n hn hT ((-4) : Int32) (rg_w (rg_c (v := (-4)) (lo := (-4)) (hi := (-4)) (by decide)) (by decide))) (cwV 1 htg (oh_gV q_1071 q_1073 q_29 q_73 q_1074) rfl rfl rfl pdVX7_refuse ⟨Nat.le_of_ble_eq_true rfl, Nat.le_of_ble_eq_true rfl⟩) hK hP hD hG hS hA (va_recv hK hP (ci := 7) (q0 := 0) rfl (oh_wg (Nat.lt_of_lt_of_le (by decide) hn) (sM_0 hT))) rfl hl.1 rfl (Nat.le_of_ble_eq_true rfl) dX7_says_90 ⟨Nat.le_of_ble_eq_true rfl, Nat.le_of_ble_eq_true rfl⟩ (fun r_62 C_63 H locs hq_64 hP hD hS => ?_)
              obtain ⟨hT, f_65, hq_64⟩ := hq_64
              have hF := fr_tr hF f_65 (by decide) (by decide)
              refine W.widen (k := 0) (n := 0) (Nat.le_refl _) (Nat.le_refl _) ?_
              have t_66 := hT
              rw [hQ]
              exact W.iret (v := r_62) hx hb hr (fun t ht hW => ⟨⟨r_62, C_63, rfl, ⟨hT, hF, ⟨hR.1.fr hF (by decide), hR.2.fr hF (by decide)⟩⟩, ⟨by rw [ht]; exact hP, hD⟩⟩, hS.F ht⟩) hS.2.2 dX7_says_93
          · refine lv_aload_n hx hb dX7_says_71 rfl (lv_at hl 0 rfl) ?_
            refine lv_bipush (v := (-3)) hx hb dX7_says_72 (by decide) ?_
            refine tm_V (As := [.int (-3)]) (rest := []) ⟨hx, hb, hml, hown, htg⟩ (c_X7_refuse l D E G _ a C n hn hT ((-3) : Int32) (rg_w (rg_c (v := (-3)) (lo := (-3)) (hi := (-3)) (by decide)) (by decide))) (cwV 1 htg (oh_gV q_1071 q_1073 q_29 q_73 q_1074) rfl rfl rfl pdVX7_refuse ⟨Nat.le_of_ble_eq_true rfl, Nat.le_of_ble_eq_true rfl⟩) hK hP hD hG hS hA (va_recv hK hP (ci := 7) (q0 := 0) rfl (oh_wg (Nat.lt_of_lt_of_le (by decide) hn) (sM_0 hT))) rfl hl.1 rfl (Nat.le_of_ble_eq_true rfl) dX7_says_74 ⟨Nat.le_of_ble_eq_true rfl, Nat.le_of_ble_eq_true rfl⟩ (fun r_67 C_68 H locs hq_69 hP hD hS => ?_)
            obtain ⟨hT, f_70, hq_69⟩ := hq_69
            have hF := fr_tr hF f_70 (by decide) (by decide)
            refine W.widen (k := 0) (n := 0) (Nat.le_refl _) (Nat.le_refl _) ?_
            have t_71 := hT
            rw [hQ]
            exact W.iret (v := r_67) hx hb hr (fun t ht hW => ⟨⟨r_67, C_68, rfl, ⟨hT, hF, ⟨hR.1.fr hF (by decide), hR.2.fr hF (by decide)⟩⟩, ⟨by rw [ht]; exact hP, hD⟩⟩, hS.F ht⟩) hS.2.2 dX7_says_77
    · have u_72 := hq_12.2.2 c_13
      refine lv_aload_n hx hb dX7_says_24 rfl (lv_at hl 0 rfl) ?_
      refine lv_bipush (v := (-2)) hx hb dX7_says_25 (by decide) ?_
      refine tm_V (As := [.int (-2)]) (rest := []) ⟨hx, hb, hml, hown, htg⟩ (c_X7_refuse l D E G _ a C n hn hT ((-2) : Int32) (rg_w (rg_c (v := (-2)) (lo := (-2)) (hi := (-2)) (by decide)) (by decide))) (cwV 1 htg (oh_gV q_1071 q_1073 q_29 q_73 q_1074) rfl rfl rfl pdVX7_refuse ⟨Nat.le_of_ble_eq_true rfl, Nat.le_of_ble_eq_true rfl⟩) hK hP hD hG hS hA (va_recv hK hP (ci := 7) (q0 := 0) rfl (oh_wg (Nat.lt_of_lt_of_le (by decide) hn) (sM_0 hT))) rfl hl.1 rfl (Nat.le_of_ble_eq_true rfl) dX7_says_27 ⟨Nat.le_of_ble_eq_true rfl, Nat.le_of_ble_eq_true rfl⟩ (fun r_73 C_74 H locs hq_75 hP hD hS => ?_)
      obtain ⟨hT, f_76, hq_75⟩ := hq_75
      have hF := fr_tr hF f_76 (by decide) (by decide)
      refine W.widen (k := 0) (n := 0) (Nat.le_refl _) (Nat.le_refl _) ?_
      have t_77 := hT
      rw [hQ]
      exact W.iret (v := r_73) hx hb hr (fun t ht hW => ⟨⟨r_73, C_74, rfl, ⟨hT, hF, ⟨hR.1.fr hF (by decide), hR.2.fr hF (by decide)⟩⟩, ⟨by rw [ht]; exact hP, hD⟩⟩, hS.F ht⟩) hS.2.2 dX7_says_30

theorem oh_relWadd {C u : Nat → va_E} {w : Nat} (h : RelW C) (hw : (w : Int) = (gi (C 0) 13).toInt) (e13 : (gi (u 0) 13).toInt = (gi (C 0) 13).toInt + 1) (er : ∀ i, i < 5 → i ≠ w → u (64 + i) = C (64 + i)) (r0 : 1 ≤ (ga (u (64 + w)) 0).toInt) (r1 : 1 ≤ (ga (u (64 + w)) 1).toInt) (e14 : u 14 = C 14) : RelW u := by
  refine ⟨fun i hi hl => ?_, fun h9 => ?_⟩
  · by_cases e : i = w
    · rw [e]
      exact ⟨r0, r1⟩
    · rw [er i hi e]
      exact h.1 i hi (by omega)
  · rw [e14] at h9 ⊢
    have := h.2 h9
    omega
theorem oh_inc13 {x : Int32} (h : rg x 0 5) : (x + 1).toInt = x.toInt + 1 := by
  rw [Int32.toInt_add]
  exact oh_bmod (by show _ ≤ x.toInt + 1; have := h.1; omega) (by show x.toInt + 1 ≤ _; have := h.2; omega)

set_option maxHeartbeats 4000000 in
set_option maxRecDepth 100000 in
theorem c_X7_wipe (l : Launch) (D : va_G) (E : Nat → ClassId) (G : Nat → Nat) (sz : Nat) (a : Nat → Nat) (C : Nat → va_E) (n : Nat) (hn : 74 ≤ n) (hT : TyM a E C) (hR : RelM C) : Met l yX7_wipe (oh_w yX7_wipe cX7_wipe 2 (some .int)) ({ frames := 0, cells := 0, slots := 0, locals := 0 }) (oh_Pm D E G [.ref (a 0)] (oh_W n a C) sz) (va_Qi (fun r (u : Nat → va_E) => TyM a E u ∧ fr [] [7] C u ∧ (RelM u) ∧ ((r = gi (C 0) 7) ∧ (gi (u 0) 7 = 0))) (oh_B D (va_A (oh_W n a C) sz) (fun u => oh_W n a u)) (va_A (oh_W n a C) sz)) 0 0 (va_A (oh_W n a C) sz) := by
  refine Met.ofW (cc := cX7_wipe) (maxL := 2) (ret := (some .int)) (by decide) rfl ?_
  intro p e s m args below meth c s₁ B hml hv
  obtain ⟨rfl, hsz, hP, hK, hD0, hG⟩ := hv
  have hx := B.exec
  have hb := B.bytes
  have hr := B.returns
  have hts := atoms_spec (ws := (oh_w yX7_wipe cX7_wipe 2 (some .int))) B.pre
  have htg : ∀ w ∈ oh_t, w.before _ s = true := fun w h => hts w (List.mem_cons_of_mem _ h)
  have hown : s.vm.findClass RX7 = some m.cls := findClass_of_methodNamed B.named
  have hlocks := B.notSynchronized
  have hT0 := hT
  subst hsz
  have hD := hD0.self (sz := s.heap.size)
  generalize hAe : va_A (oh_W n a C) s.heap.size = A at hD hG ⊢
  have hA : ∀ q : Nat, s.heap.size ≤ q → A q := fun q h => by rw [← hAe]; exact Or.inr h
  have hS : va_S A s.heap s.heap [] := va_S.rf
  have hF : fr [] [7] C C := fr_rf
  have hl := lv_entry ([.ref (a 0)]) (n := 2) (Nat.le_of_ble_eq_true rfl)
  rw [lg_entry_eq]
  generalize (lg_sl ([.ref (a 0)]) ++ List.replicate (2 - (lg_sl ([.ref (a 0)])).length) Slot.unset).toArray = ls at hl ⊢
  have hl : lv_has ls 2 [(0, .ref (a 0))] := hl
  refine oh_genQ (fun Q hQ => ?_)
  refine lv_aload_n hx hb dX7_wipe_0 rfl (lv_at hl 0 rfl) ?_
  refine va_get (D := D) (ci := 7) (v := .int (gi (C 0) 7)) (C := RX7) (T := TX7) (N := 29) hx hb htg ig_7 hown hK hP 0 (oh_wg (Nat.lt_of_lt_of_le (by decide) hn) (sM_0 hT)) rfl 7 (by decide) (htg _ q_980) (fun _ h9 => h9) rfl dX7_wipe_1 ?_
  refine lv_istore_n (lv' := [(1, .int (gi (C 0) 7)), (0, .ref (a 0))]) hx hb dX7_wipe_4 rfl hl (by decide) rfl (fun ls hl => ?_)
  refine lv_aload_n hx hb dX7_wipe_5 rfl (lv_at hl 1 rfl) ?_
  refine lv_iconst (v := 0) hx hb dX7_wipe_6 (by decide) ?_
  refine th_put (Tp := TyM a E) (Rl := fr [] [7] C) (ci := 7) (v := .int 0) (ty := .int) (CC := RX7) (T := TX7) (N := 29) hx hb htg ig_7 tyX7 tyX7_ok nmX7 hown hK hP hD hS 0 (Nat.lt_of_lt_of_le (by decide) hn) (sM_0 hT) rfl 7 (by decide) (htg _ q_980) (fun _ h9 => h9) rfl (by decide +kernel) rfl rfl (Nat.le_of_ble_eq_true rfl) (hT.up 0 (by decide) ⟨rfl, (rg_w (rg_c (v := 0) (lo := 0) (hi := 0) (by decide)) (by decide)), (fM_0_9 hT), (fM_0_11 hT), (fM_0_13 hT), (fM_0_15 hT), (fM_0_21 hT), (fM_0_23 hT)⟩) (fr_fd hF (sM_0 hT) (by decide)) dX7_wipe_7 (fun C_1 H locs e_2 hT hF hP hD hS => ?_)
  have t_3 := hT
  refine lv_iload_n hx hb dX7_wipe_10 rfl (lv_at hl 0 rfl) ?_
  rw [hQ]
  exact W.iret (v := gi (C 0) 7) hx hb hr (fun t ht hW => ⟨⟨gi (C 0) 7, C_1, rfl, ⟨hT, hF, ⟨⟨hR.1.fr hF (by decide), hR.2.fr hF (by decide)⟩, ⟨rfl, (show gi (C_1 0) 7 = (0 : Int32) by rw [e_2]; rfl)⟩⟩⟩, ⟨by rw [ht]; exact hP, hD⟩⟩, hS.F ht⟩) hS.2.2 dX7_wipe_11

set_option maxHeartbeats 4000000 in
set_option maxRecDepth 100000 in
theorem c_X7_bridgeOf (l : Launch) (D : va_G) (E : Nat → ClassId) (G : Nat → Nat) (sz : Nat) (a : Nat → Nat) (C : Nat → va_E) (n : Nat) (hn : 74 ≤ n) (hT : TyM a E C) (x1 : Int32) (x2 : Int32) (hR : RelM C) : Met l yX7_bridgeOf (oh_w yX7_bridgeOf cX7_bridgeOf 3 (some .int)) ({ frames := 2, cells := 0, slots := 0, locals := 46 }) (oh_Pm D E G [.ref (a 0), .int x1, .int x2] (oh_W n a C) sz) (va_Qi (fun r (u : Nat → va_E) => TyM a E u ∧ fr [(8, 9)] [] C u ∧ (RelM u)) (oh_B D (va_A (oh_W n a C) sz) (fun u => oh_W n a u)) (va_A (oh_W n a C) sz)) 0 0 (va_A (oh_W n a C) sz) := by
  refine Met.ofW (cc := cX7_bridgeOf) (maxL := 3) (ret := (some .int)) (by decide) rfl ?_
  intro p e s m args below meth c s₁ B hml hv
  obtain ⟨rfl, hsz, hP, hK, hD0, hG⟩ := hv
  have hx := B.exec
  have hb := B.bytes
  have hr := B.returns
  have hts := atoms_spec (ws := (oh_w yX7_bridgeOf cX7_bridgeOf 3 (some .int))) B.pre
  have htg : ∀ w ∈ oh_t, w.before _ s = true := fun w h => hts w (List.mem_cons_of_mem _ h)
  have hown : s.vm.findClass RX7 = some m.cls := findClass_of_methodNamed B.named
  have hlocks := B.notSynchronized
  have hT0 := hT
  subst hsz
  have hD := hD0.self (sz := s.heap.size)
  generalize hAe : va_A (oh_W n a C) s.heap.size = A at hD hG ⊢
  have hA : ∀ q : Nat, s.heap.size ≤ q → A q := fun q h => by rw [← hAe]; exact Or.inr h
  have hS : va_S A s.heap s.heap [] := va_S.rf
  have hF : fr [(8, 9)] [] C C := fr_rf
  have hl := lv_entry ([.ref (a 0), .int x1, .int x2]) (n := 3) (Nat.le_of_ble_eq_true rfl)
  rw [lg_entry_eq]
  generalize (lg_sl ([.ref (a 0), .int x1, .int x2]) ++ List.replicate (3 - (lg_sl ([.ref (a 0), .int x1, .int x2])).length) Slot.unset).toArray = ls at hl ⊢
  have hl : lv_has ls 3 [(0, .ref (a 0)), (1, .int x1), (2, .int x2)] := hl
  refine oh_genQ (fun Q hQ => ?_)
  refine lv_aload_n hx hb dX7_bridgeOf_0 rfl (lv_at hl 0 rfl) ?_
  refine lv_iload_n hx hb dX7_bridgeOf_1 rfl (lv_at hl 1 rfl) ?_
  refine tq_V (As := [.int x1]) (rest := []) (ws := (oh_W n a C)) ⟨hx, hb, hml, hown, htg⟩ (c_X7_isBridge l D E G a C n hn hT x1) (cwV 1 htg (oh_gV q_1098 q_1100 q_30 q_73 q_1101) rfl rfl rfl pdVX7_isBridge ⟨Nat.le_of_ble_eq_true rfl, Nat.le_of_ble_eq_true rfl⟩) hK hP hG hS (va_recv hK hP (ci := 7) (q0 := 0) rfl (oh_wg (Nat.lt_of_lt_of_le (by decide) hn) (sM_0 hT))) rfl hl.1 rfl (Nat.le_of_ble_eq_true rfl) dX7_bridgeOf_2 ⟨Nat.le_of_ble_eq_true rfl, Nat.le_of_ble_eq_true rfl⟩ (fun r_1 hq_2 => ?_)
  refine lv_if_eq (tgt := 31) hx hb dX7_bridgeOf_5 (by decide) (fun (c_3 : r_1 = 0) => ?_) (fun (c_3 : ¬ (r_1 = 0)) => ?_)
  · refine lv_aload_n hx hb dX7_bridgeOf_31 rfl (lv_at hl 0 rfl) ?_
    refine lv_bipush (v := (-2)) hx hb dX7_bridgeOf_32 (by decide) ?_
    refine tm_V (As := [.int (-2)]) (rest := []) ⟨hx, hb, hml, hown, htg⟩ (c_X7_refuse l D E G _ a C n hn hT ((-2) : Int32) (rg_w (rg_c (v := (-2)) (lo := (-2)) (hi := (-2)) (by decide)) (by decide))) (cwV 1 htg (oh_gV q_1071 q_1073 q_29 q_73 q_1074) rfl rfl rfl pdVX7_refuse ⟨Nat.le_of_ble_eq_true rfl, Nat.le_of_ble_eq_true rfl⟩) hK hP hD hG hS hA (va_recv hK hP (ci := 7) (q0 := 0) rfl (oh_wg (Nat.lt_of_lt_of_le (by decide) hn) (sM_0 hT))) rfl hl.1 rfl (Nat.le_of_ble_eq_true rfl) dX7_bridgeOf_34 ⟨Nat.le_of_ble_eq_true rfl, Nat.le_of_ble_eq_true rfl⟩ (fun r_4 C_5 H locs hq_6 hP hD hS => ?_)
    obtain ⟨hT, f_7, hq_6⟩ := hq_6
    have hF := fr_tr hF f_7 (by decide) (by decide)
    refine W.widen (k := 0) (n := 0) (Nat.le_refl _) (Nat.le_refl _) ?_
    have t_8 := hT
    rw [hQ]
    exact W.iret (v := r_4) hx hb hr (fun t ht hW => ⟨⟨r_4, C_5, rfl, ⟨hT, hF, ⟨hR.1.fr hF (by decide), hR.2.fr hF (by decide)⟩⟩, ⟨by rw [ht]; exact hP, hD⟩⟩, hS.F ht⟩) hS.2.2 dX7_bridgeOf_37
  · have u_9 := hq_2.2 c_3
    refine lv_iload_n hx hb dX7_bridgeOf_8 rfl (lv_at hl 2 rfl) ?_
    refine lv_i2l (v := Int32.toInt64 x2) hx hb dX7_bridgeOf_9 (by rfl) ?_
    refine lv_lconst (v := 0) hx hb dX7_bridgeOf_10 (by decide) ?_
    refine lv_ldc2 (v := 9) hx hb hown (htg _ q_1135) dX7_bridgeOf_11 ?_
    refine tq_S (As := [.long (Int32.toInt64 x2), .long 0, .long 9]) (rest := []) (ws := []) ⟨hx, hb, hml, hown, htg⟩ (c_X7_in l D E G (Int32.toInt64 x2) (0 : Int64) (9 : Int64)) (va_cwS 3 htg (oh_gS q_1066 q_1067 q_73 q_1068) rfl rfl rfl pdX7_in ⟨Nat.le_of_ble_eq_true rfl, Nat.le_of_ble_eq_true rfl⟩) hK va_nil hG hS rfl hl.1 rfl (Nat.le_of_ble_eq_true rfl) dX7_bridgeOf_14 ⟨Nat.le_of_ble_eq_true rfl, Nat.le_of_ble_eq_true rfl⟩ (fun r_10 hq_11 => ?_)
    refine lv_if_eq (tgt := 31) hx hb dX7_bridgeOf_17 (by decide) (fun (c_12 : r_10 = 0) => ?_) (fun (c_12 : ¬ (r_10 = 0)) => ?_)
    · have u_13 := hq_11.2.2 c_12
      refine lv_aload_n hx hb dX7_bridgeOf_31 rfl (lv_at hl 0 rfl) ?_
      refine lv_bipush (v := (-2)) hx hb dX7_bridgeOf_32 (by decide) ?_
      refine tm_V (As := [.int (-2)]) (rest := []) ⟨hx, hb, hml, hown, htg⟩ (c_X7_refuse l D E G _ a C n hn hT ((-2) : Int32) (rg_w (rg_c (v := (-2)) (lo := (-2)) (hi := (-2)) (by decide)) (by decide))) (cwV 1 htg (oh_gV q_1071 q_1073 q_29 q_73 q_1074) rfl rfl rfl pdVX7_refuse ⟨Nat.le_of_ble_eq_true rfl, Nat.le_of_ble_eq_true rfl⟩) hK hP hD hG hS hA (va_recv hK hP (ci := 7) (q0 := 0) rfl (oh_wg (Nat.lt_of_lt_of_le (by decide) hn) (sM_0 hT))) rfl hl.1 rfl (Nat.le_of_ble_eq_true rfl) dX7_bridgeOf_34 ⟨Nat.le_of_ble_eq_true rfl, Nat.le_of_ble_eq_true rfl⟩ (fun r_14 C_15 H locs hq_16 hP hD hS => ?_)
      obtain ⟨hT, f_17, hq_16⟩ := hq_16
      have hF := fr_tr hF f_17 (by decide) (by decide)
      refine W.widen (k := 0) (n := 0) (Nat.le_refl _) (Nat.le_refl _) ?_
      have t_18 := hT
      rw [hQ]
      exact W.iret (v := r_14) hx hb hr (fun t ht hW => ⟨⟨r_14, C_15, rfl, ⟨hT, hF, ⟨hR.1.fr hF (by decide), hR.2.fr hF (by decide)⟩⟩, ⟨by rw [ht]; exact hP, hD⟩⟩, hS.F ht⟩) hS.2.2 dX7_bridgeOf_37
    · have u_19 := hq_11.2.1 c_12
      refine lv_aload_n hx hb dX7_bridgeOf_20 rfl (lv_at hl 0 rfl) ?_
      refine va_get (D := D) (ci := 7) (v := .ref (a 10)) (C := RX7) (T := TX7) (N := 29) hx hb htg ig_7 hown hK hP 0 (oh_wg (Nat.lt_of_lt_of_le (by decide) hn) (sM_0 hT)) rfl 12 (by decide) (htg _ q_985) (fun _ h9 => h9) rfl dX7_bridgeOf_21 ?_
      refine lv_iload_n hx hb dX7_bridgeOf_24 rfl (lv_at hl 1 rfl) ?_
      have n_20 : vp_in x1 16 := (rg_in u_9 (by decide))
      have b_21 : (x1).toNatClampNeg < 16 := vp_lt n_20
      refine th_aald hx hb hK hP 10 2 (Nat.lt_of_lt_of_le (by decide) hn) (sM_10 hT) rfl n_20 dX7_bridgeOf_25 ?_
      refine lv_iload_n hx hb dX7_bridgeOf_26 rfl (lv_at hl 2 rfl) ?_
      have n_22 : vp_in x2 10 := (rg_in (rg_il (rgL_i (rg_il (rnL_leu u_19.2 (rnL_lel u_19.1 (rgL_c (v := 0) (lo := 0) (hi := 0) (by decide)) (rgL_i (rg_any _))) (rgL_c (v := 9) (lo := 9) (hi := 9) (by decide)))))) (by decide))
      refine th_iald hx hb hK hP (48 + (x1).toNatClampNeg) (lt_blk b_21 hn (by decide)) (hT.bbridge b_21).1 n_22 dX7_bridgeOf_27 ?_
      refine lv_goto (tgt := 37) hx hb dX7_bridgeOf_28 (by decide) ?_
      rw [hQ]
      exact W.iret (v := ga (C (48 + (x1).toNatClampNeg)) (x2).toNatClampNeg) hx hb hr (fun t ht hW => ⟨⟨ga (C (48 + (x1).toNatClampNeg)) (x2).toNatClampNeg, C, rfl, ⟨hT, hF, hR⟩, ⟨by rw [ht]; exact hP, hD⟩⟩, hS.F ht⟩) hS.2.2 dX7_bridgeOf_37

set_option maxHeartbeats 4000000 in
set_option maxRecDepth 100000 in
theorem c_X7_bears (l : Launch) (D : va_G) (E : Nat → ClassId) (G : Nat → Nat) (sz : Nat) (a : Nat → Nat) (C : Nat → va_E) (n : Nat) (hn : 74 ≤ n) (hT : TyM a E C) (x1 : Int32) (x2 : Int32) (hx2 : rg x2 0 1) (hR : RelM C) : Met l yX7_bears (oh_w yX7_bears cX7_bears 3 (some .int)) ({ frames := 2, cells := 0, slots := 0, locals := 46 }) (oh_Pm D E G [.ref (a 0), .int x1, .int x2] (oh_W n a C) sz) (va_Qi (fun r (u : Nat → va_E) => TyM a E u ∧ fr [(8, 9)] [] C u ∧ (RelM u)) (oh_B D (va_A (oh_W n a C) sz) (fun u => oh_W n a u)) (va_A (oh_W n a C) sz)) 0 0 (va_A (oh_W n a C) sz) := by
  refine Met.ofW (cc := cX7_bears) (maxL := 3) (ret := (some .int)) (by decide) rfl ?_
  intro p e s m args below meth c s₁ B hml hv
  obtain ⟨rfl, hsz, hP, hK, hD0, hG⟩ := hv
  have hx := B.exec
  have hb := B.bytes
  have hr := B.returns
  have hts := atoms_spec (ws := (oh_w yX7_bears cX7_bears 3 (some .int))) B.pre
  have htg : ∀ w ∈ oh_t, w.before _ s = true := fun w h => hts w (List.mem_cons_of_mem _ h)
  have hown : s.vm.findClass RX7 = some m.cls := findClass_of_methodNamed B.named
  have hlocks := B.notSynchronized
  have hT0 := hT
  subst hsz
  have hD := hD0.self (sz := s.heap.size)
  generalize hAe : va_A (oh_W n a C) s.heap.size = A at hD hG ⊢
  have hA : ∀ q : Nat, s.heap.size ≤ q → A q := fun q h => by rw [← hAe]; exact Or.inr h
  have hS : va_S A s.heap s.heap [] := va_S.rf
  have hF : fr [(8, 9)] [] C C := fr_rf
  have hl := lv_entry ([.ref (a 0), .int x1, .int x2]) (n := 3) (Nat.le_of_ble_eq_true rfl)
  rw [lg_entry_eq]
  generalize (lg_sl ([.ref (a 0), .int x1, .int x2]) ++ List.replicate (3 - (lg_sl ([.ref (a 0), .int x1, .int x2])).length) Slot.unset).toArray = ls at hl ⊢
  have hl : lv_has ls 3 [(0, .ref (a 0)), (1, .int x1), (2, .int x2)] := hl
  refine oh_genQ (fun Q hQ => ?_)
  refine lv_aload_n hx hb dX7_bears_0 rfl (lv_at hl 0 rfl) ?_
  refine lv_iload_n hx hb dX7_bears_1 rfl (lv_at hl 1 rfl) ?_
  refine tq_V (As := [.int x1]) (rest := []) (ws := (oh_W n a C)) ⟨hx, hb, hml, hown, htg⟩ (c_X7_isBridge l D E G a C n hn hT x1) (cwV 1 htg (oh_gV q_1098 q_1100 q_30 q_73 q_1101) rfl rfl rfl pdVX7_isBridge ⟨Nat.le_of_ble_eq_true rfl, Nat.le_of_ble_eq_true rfl⟩) hK hP hG hS (va_recv hK hP (ci := 7) (q0 := 0) rfl (oh_wg (Nat.lt_of_lt_of_le (by decide) hn) (sM_0 hT))) rfl hl.1 rfl (Nat.le_of_ble_eq_true rfl) dX7_bears_2 ⟨Nat.le_of_ble_eq_true rfl, Nat.le_of_ble_eq_true rfl⟩ (fun r_1 hq_2 => ?_)
  refine lv_if_ne (tgt := 15) hx hb dX7_bears_5 (by decide) (fun (c_3 : ¬ (r_1 = 0)) => ?_) (fun (c_3 : r_1 = 0) => ?_)
  · have u_4 := hq_2.2 c_3
    refine lv_iload_n hx hb dX7_bears_15 rfl (lv_at hl 2 rfl) ?_
    refine lv_if_eq (tgt := 45) hx hb dX7_bears_16 (by decide) (fun (c_5 : x2 = 0) => ?_) (fun (c_5 : ¬ (x2 = 0)) => ?_)
    · refine lv_aload_n hx hb dX7_bears_45 rfl (lv_at hl 0 rfl) ?_
      refine lv_iload_n hx hb dX7_bears_46 rfl (lv_at hl 1 rfl) ?_
      refine tq_V (As := [.int x1]) (rest := []) (ws := (oh_W n a C)) ⟨hx, hb, hml, hown, htg⟩ (c_X7_axleOf l D E G a C n hn hT x1 (rg_w u_4 (by decide))) (cwV 1 htg (oh_gV q_1110 q_1112 q_31 q_73 q_1113) rfl rfl rfl pdVX7_axleOf ⟨Nat.le_of_ble_eq_true rfl, Nat.le_of_ble_eq_true rfl⟩) hK hP hG hS (va_recv hK hP (ci := 7) (q0 := 0) rfl (oh_wg (Nat.lt_of_lt_of_le (by decide) hn) (sM_0 hT))) rfl hl.1 rfl (Nat.le_of_ble_eq_true rfl) dX7_bears_47 ⟨Nat.le_of_ble_eq_true rfl, Nat.le_of_ble_eq_true rfl⟩ (fun r_6 hq_7 => ?_)
      rw [hQ]
      exact W.iret (v := r_6) hx hb hr (fun t ht hW => ⟨⟨r_6, C, rfl, ⟨hT, hF, hR⟩, ⟨by rw [ht]; exact hP, hD⟩⟩, hS.F ht⟩) hS.2.2 dX7_bears_50
    · refine lv_aload_n hx hb dX7_bears_19 rfl (lv_at hl 0 rfl) ?_
      refine lv_iload_n hx hb dX7_bears_20 rfl (lv_at hl 1 rfl) ?_
      refine lv_aload_n hx hb dX7_bears_21 rfl (lv_at hl 0 rfl) ?_
      refine va_get (D := D) (ci := 7) (v := .ref (a 10)) (C := RX7) (T := TX7) (N := 29) hx hb htg ig_7 hown hK hP 0 (oh_wg (Nat.lt_of_lt_of_le (by decide) hn) (sM_0 hT)) rfl 12 (by decide) (htg _ q_985) (fun _ h9 => h9) rfl dX7_bears_22 ?_
      refine lv_iload_n hx hb dX7_bears_25 rfl (lv_at hl 1 rfl) ?_
      have n_8 : vp_in x1 16 := (rg_in u_4 (by decide))
      have b_9 : (x1).toNatClampNeg < 16 := vp_lt n_8
      refine th_aald hx hb hK hP 10 2 (Nat.lt_of_lt_of_le (by decide) hn) (sM_10 hT) rfl n_8 dX7_bears_26 ?_
      refine lv_bipush (v := 7) hx hb dX7_bears_27 (by decide) ?_
      refine th_iald hx hb hK hP (48 + (x1).toNatClampNeg) (lt_blk b_9 hn (by decide)) (hT.bbridge b_9).1 (rg_in (rg_c (v := 7) (lo := 7) (hi := 7) (by decide)) (by decide)) dX7_bears_29 ?_
      refine lv_iconst (v := 1) hx hb dX7_bears_30 (by decide) ?_
      refine lv_icmp_ne (tgt := 38) hx hb dX7_bears_31 (by decide) (fun (c_10 : ¬ ((ga (C (48 + (x1).toNatClampNeg)) ((7 : Int32)).toNatClampNeg) = 1)) => ?_) (fun (c_10 : (ga (C (48 + (x1).toNatClampNeg)) ((7 : Int32)).toNatClampNeg) = 1) => ?_)
      · refine lv_iconst (v := 0) hx hb dX7_bears_38 (by decide) ?_
        refine tq_V (As := [.int x1, .int 0]) (rest := []) (ws := (oh_W n a C)) ⟨hx, hb, hml, hown, htg⟩ (c_X7_allOf l D E G a C n hn hT x1 (0 : Int32) (rg_w u_4 (by decide)) (rg_w (rg_c (v := 0) (lo := 0) (hi := 0) (by decide)) (by decide))) (cwV 2 htg (oh_gV q_1122 q_1124 q_34 q_73 q_1125) rfl rfl rfl pdVX7_allOf ⟨Nat.le_of_ble_eq_true rfl, Nat.le_of_ble_eq_true rfl⟩) hK hP hG hS (va_recv hK hP (ci := 7) (q0 := 0) rfl (oh_wg (Nat.lt_of_lt_of_le (by decide) hn) (sM_0 hT))) rfl hl.1 rfl (Nat.le_of_ble_eq_true rfl) dX7_bears_39 ⟨Nat.le_of_ble_eq_true rfl, Nat.le_of_ble_eq_true rfl⟩ (fun r_11 hq_12 => ?_)
        refine lv_goto (tgt := 50) hx hb dX7_bears_42 (by decide) ?_
        rw [hQ]
        exact W.iret (v := r_11) hx hb hr (fun t ht hW => ⟨⟨r_11, C, rfl, ⟨hT, hF, hR⟩, ⟨by rw [ht]; exact hP, hD⟩⟩, hS.F ht⟩) hS.2.2 dX7_bears_50
      · refine lv_iconst (v := 1) hx hb dX7_bears_34 (by decide) ?_
        refine lv_goto (tgt := 39) hx hb dX7_bears_35 (by decide) ?_
        refine tq_V (As := [.int x1, .int 1]) (rest := []) (ws := (oh_W n a C)) ⟨hx, hb, hml, hown, htg⟩ (c_X7_allOf l D E G a C n hn hT x1 (1 : Int32) (rg_w u_4 (by decide)) (rg_w (rg_c (v := 1) (lo := 1) (hi := 1) (by decide)) (by decide))) (cwV 2 htg (oh_gV q_1122 q_1124 q_34 q_73 q_1125) rfl rfl rfl pdVX7_allOf ⟨Nat.le_of_ble_eq_true rfl, Nat.le_of_ble_eq_true rfl⟩) hK hP hG hS (va_recv hK hP (ci := 7) (q0 := 0) rfl (oh_wg (Nat.lt_of_lt_of_le (by decide) hn) (sM_0 hT))) rfl hl.1 rfl (Nat.le_of_ble_eq_true rfl) dX7_bears_39 ⟨Nat.le_of_ble_eq_true rfl, Nat.le_of_ble_eq_true rfl⟩ (fun r_13 hq_14 => ?_)
        refine lv_goto (tgt := 50) hx hb dX7_bears_42 (by decide) ?_
        rw [hQ]
        exact W.iret (v := r_13) hx hb hr (fun t ht hW => ⟨⟨r_13, C, rfl, ⟨hT, hF, hR⟩, ⟨by rw [ht]; exact hP, hD⟩⟩, hS.F ht⟩) hS.2.2 dX7_bears_50
  · refine lv_aload_n hx hb dX7_bears_8 rfl (lv_at hl 0 rfl) ?_
    refine lv_bipush (v := (-2)) hx hb dX7_bears_9 (by decide) ?_
    refine tm_V (As := [.int (-2)]) (rest := []) ⟨hx, hb, hml, hown, htg⟩ (c_X7_refuse l D E G _ a C n hn hT ((-2) : Int32) (rg_w (rg_c (v := (-2)) (lo := (-2)) (hi := (-2)) (by decide)) (by decide))) (cwV 1 htg (oh_gV q_1071 q_1073 q_29 q_73 q_1074) rfl rfl rfl pdVX7_refuse ⟨Nat.le_of_ble_eq_true rfl, Nat.le_of_ble_eq_true rfl⟩) hK hP hD hG hS hA (va_recv hK hP (ci := 7) (q0 := 0) rfl (oh_wg (Nat.lt_of_lt_of_le (by decide) hn) (sM_0 hT))) rfl hl.1 rfl (Nat.le_of_ble_eq_true rfl) dX7_bears_11 ⟨Nat.le_of_ble_eq_true rfl, Nat.le_of_ble_eq_true rfl⟩ (fun r_15 C_16 H locs hq_17 hP hD hS => ?_)
    obtain ⟨hT, f_18, hq_17⟩ := hq_17
    have hF := fr_tr hF f_18 (by decide) (by decide)
    refine W.widen (k := 0) (n := 0) (Nat.le_refl _) (Nat.le_refl _) ?_
    have t_19 := hT
    rw [hQ]
    exact W.iret (v := r_15) hx hb hr (fun t ht hW => ⟨⟨r_15, C_16, rfl, ⟨hT, hF, ⟨hR.1.fr hF (by decide), hR.2.fr hF (by decide)⟩⟩, ⟨by rw [ht]; exact hP, hD⟩⟩, hS.F ht⟩) hS.2.2 dX7_bears_14

set_option maxHeartbeats 4000000 in
set_option maxRecDepth 100000 in
theorem c_X7_needs (l : Launch) (D : va_G) (E : Nat → ClassId) (G : Nat → Nat) (sz : Nat) (a : Nat → Nat) (C : Nat → va_E) (n : Nat) (hn : 74 ≤ n) (hT : TyM a E C) (x1 : Int32) (x2 : Int32) (x3 : Int32) (hR : RelM C) : Met l yX7_needs (oh_w yX7_needs cX7_needs 4 (some .int)) ({ frames := 3, cells := 0, slots := 0, locals := 73 }) (oh_Pm D E G [.ref (a 0), .int x1, .int x2, .int x3] (oh_W n a C) sz) (va_Qi (fun r (u : Nat → va_E) => TyM a E u ∧ fr [(8, 9)] [] C u ∧ (RelM u)) (oh_B D (va_A (oh_W n a C) sz) (fun u => oh_W n a u)) (va_A (oh_W n a C) sz)) 0 0 (va_A (oh_W n a C) sz) := by
  refine Met.ofW (cc := cX7_needs) (maxL := 4) (ret := (some .int)) (by decide) rfl ?_
  intro p e s m args below meth c s₁ B hml hv
  obtain ⟨rfl, hsz, hP, hK, hD0, hG⟩ := hv
  have hx := B.exec
  have hb := B.bytes
  have hr := B.returns
  have hts := atoms_spec (ws := (oh_w yX7_needs cX7_needs 4 (some .int))) B.pre
  have htg : ∀ w ∈ oh_t, w.before _ s = true := fun w h => hts w (List.mem_cons_of_mem _ h)
  have hown : s.vm.findClass RX7 = some m.cls := findClass_of_methodNamed B.named
  have hlocks := B.notSynchronized
  have hT0 := hT
  subst hsz
  have hD := hD0.self (sz := s.heap.size)
  generalize hAe : va_A (oh_W n a C) s.heap.size = A at hD hG ⊢
  have hA : ∀ q : Nat, s.heap.size ≤ q → A q := fun q h => by rw [← hAe]; exact Or.inr h
  have hS : va_S A s.heap s.heap [] := va_S.rf
  have hF : fr [(8, 9)] [] C C := fr_rf
  have hl := lv_entry ([.ref (a 0), .int x1, .int x2, .int x3]) (n := 4) (Nat.le_of_ble_eq_true rfl)
  rw [lg_entry_eq]
  generalize (lg_sl ([.ref (a 0), .int x1, .int x2, .int x3]) ++ List.replicate (4 - (lg_sl ([.ref (a 0), .int x1, .int x2, .int x3])).length) Slot.unset).toArray = ls at hl ⊢
  have hl : lv_has ls 4 [(0, .ref (a 0)), (1, .int x1), (2, .int x2), (3, .int x3)] := hl
  refine oh_genQ (fun Q hQ => ?_)
  refine lv_aload_n hx hb dX7_needs_0 rfl (lv_at hl 0 rfl) ?_
  refine lv_iload_n hx hb dX7_needs_1 rfl (lv_at hl 1 rfl) ?_
  refine lv_iload_n hx hb dX7_needs_2 rfl (lv_at hl 2 rfl) ?_
  refine tq_V (As := [.int x1, .int x2]) (rest := []) (ws := (oh_W n a C)) ⟨hx, hb, hml, hown, htg⟩ (c_X7_isPack l D E G a C n hn hT x1 x2 hR.1) (cwV 2 htg (oh_gV q_1290 q_1292 q_50 q_73 q_1293) rfl rfl rfl pdVX7_isPack ⟨Nat.le_of_ble_eq_true rfl, Nat.le_of_ble_eq_true rfl⟩) hK hP hG hS (va_recv hK hP (ci := 7) (q0 := 0) rfl (oh_wg (Nat.lt_of_lt_of_le (by decide) hn) (sM_0 hT))) rfl hl.1 rfl (Nat.le_of_ble_eq_true rfl) dX7_needs_3 ⟨Nat.le_of_ble_eq_true rfl, Nat.le_of_ble_eq_true rfl⟩ (fun r_1 hq_2 => ?_)
  refine lv_if_eq (tgt := 27) hx hb dX7_needs_6 (by decide) (fun (c_3 : r_1 = 0) => ?_) (fun (c_3 : ¬ (r_1 = 0)) => ?_)
  · refine lv_aload_n hx hb dX7_needs_27 rfl (lv_at hl 0 rfl) ?_
    refine lv_bipush (v := (-2)) hx hb dX7_needs_28 (by decide) ?_
    refine tm_V (As := [.int (-2)]) (rest := []) ⟨hx, hb, hml, hown, htg⟩ (c_X7_refuse l D E G _ a C n hn hT ((-2) : Int32) (rg_w (rg_c (v := (-2)) (lo := (-2)) (hi := (-2)) (by decide)) (by decide))) (cwV 1 htg (oh_gV q_1071 q_1073 q_29 q_73 q_1074) rfl rfl rfl pdVX7_refuse ⟨Nat.le_of_ble_eq_true rfl, Nat.le_of_ble_eq_true rfl⟩) hK hP hD hG hS hA (va_recv hK hP (ci := 7) (q0 := 0) rfl (oh_wg (Nat.lt_of_lt_of_le (by decide) hn) (sM_0 hT))) rfl hl.1 rfl (Nat.le_of_ble_eq_true rfl) dX7_needs_30 ⟨Nat.le_of_ble_eq_true rfl, Nat.le_of_ble_eq_true rfl⟩ (fun r_4 C_5 H locs hq_6 hP hD hS => ?_)
    obtain ⟨hT, f_7, hq_6⟩ := hq_6
    have hF := fr_tr hF f_7 (by decide) (by decide)
    refine W.widen (k := 0) (n := 0) (Nat.le_refl _) (Nat.le_refl _) ?_
    have t_8 := hT
    rw [hQ]
    exact W.iret (v := r_4) hx hb hr (fun t ht hW => ⟨⟨r_4, C_5, rfl, ⟨hT, hF, ⟨hR.1.fr hF (by decide), hR.2.fr hF (by decide)⟩⟩, ⟨by rw [ht]; exact hP, hD⟩⟩, hS.F ht⟩) hS.2.2 dX7_needs_33
  · have u_9 := hq_2.2 c_3
    refine lv_aload_n hx hb dX7_needs_9 rfl (lv_at hl 0 rfl) ?_
    refine lv_iload_n hx hb dX7_needs_10 rfl (lv_at hl 3 rfl) ?_
    refine tq_V (As := [.int x3]) (rest := []) (ws := (oh_W n a C)) ⟨hx, hb, hml, hown, htg⟩ (c_X7_isBridge l D E G a C n hn hT x3) (cwV 1 htg (oh_gV q_1098 q_1100 q_30 q_73 q_1101) rfl rfl rfl pdVX7_isBridge ⟨Nat.le_of_ble_eq_true rfl, Nat.le_of_ble_eq_true rfl⟩) hK hP hG hS (va_recv hK hP (ci := 7) (q0 := 0) rfl (oh_wg (Nat.lt_of_lt_of_le (by decide) hn) (sM_0 hT))) rfl hl.1 rfl (Nat.le_of_ble_eq_true rfl) dX7_needs_11 ⟨Nat.le_of_ble_eq_true rfl, Nat.le_of_ble_eq_true rfl⟩ (fun r_10 hq_11 => ?_)
    refine lv_if_eq (tgt := 27) hx hb dX7_needs_14 (by decide) (fun (c_12 : r_10 = 0) => ?_) (fun (c_12 : ¬ (r_10 = 0)) => ?_)
    · refine lv_aload_n hx hb dX7_needs_27 rfl (lv_at hl 0 rfl) ?_
      refine lv_bipush (v := (-2)) hx hb dX7_needs_28 (by decide) ?_
      refine tm_V (As := [.int (-2)]) (rest := []) ⟨hx, hb, hml, hown, htg⟩ (c_X7_refuse l D E G _ a C n hn hT ((-2) : Int32) (rg_w (rg_c (v := (-2)) (lo := (-2)) (hi := (-2)) (by decide)) (by decide))) (cwV 1 htg (oh_gV q_1071 q_1073 q_29 q_73 q_1074) rfl rfl rfl pdVX7_refuse ⟨Nat.le_of_ble_eq_true rfl, Nat.le_of_ble_eq_true rfl⟩) hK hP hD hG hS hA (va_recv hK hP (ci := 7) (q0 := 0) rfl (oh_wg (Nat.lt_of_lt_of_le (by decide) hn) (sM_0 hT))) rfl hl.1 rfl (Nat.le_of_ble_eq_true rfl) dX7_needs_30 ⟨Nat.le_of_ble_eq_true rfl, Nat.le_of_ble_eq_true rfl⟩ (fun r_13 C_14 H locs hq_15 hP hD hS => ?_)
      obtain ⟨hT, f_16, hq_15⟩ := hq_15
      have hF := fr_tr hF f_16 (by decide) (by decide)
      refine W.widen (k := 0) (n := 0) (Nat.le_refl _) (Nat.le_refl _) ?_
      have t_17 := hT
      rw [hQ]
      exact W.iret (v := r_13) hx hb hr (fun t ht hW => ⟨⟨r_13, C_14, rfl, ⟨hT, hF, ⟨hR.1.fr hF (by decide), hR.2.fr hF (by decide)⟩⟩, ⟨by rw [ht]; exact hP, hD⟩⟩, hS.F ht⟩) hS.2.2 dX7_needs_33
    · have u_18 := hq_11.2 c_12
      refine lv_aload_n hx hb dX7_needs_17 rfl (lv_at hl 0 rfl) ?_
      refine lv_iload_n hx hb dX7_needs_18 rfl (lv_at hl 1 rfl) ?_
      refine lv_iload_n hx hb dX7_needs_19 rfl (lv_at hl 2 rfl) ?_
      refine lv_iload_n hx hb dX7_needs_20 rfl (lv_at hl 3 rfl) ?_
      refine tq_V (As := [.int x1, .int x2, .int x3]) (rest := []) (ws := (oh_W n a C)) ⟨hx, hb, hml, hown, htg⟩ (c_X7_needsOf l D E G a C n hn hT x1 x2 x3 (rg_w u_9.1 (by decide)) (rg_w u_18 (by decide)) u_9.2.1) (cwV 3 htg (oh_gV q_1310 q_1312 q_53 q_73 q_1313) rfl rfl rfl pdVX7_needsOf ⟨Nat.le_of_ble_eq_true rfl, Nat.le_of_ble_eq_true rfl⟩) hK hP hG hS (va_recv hK hP (ci := 7) (q0 := 0) rfl (oh_wg (Nat.lt_of_lt_of_le (by decide) hn) (sM_0 hT))) rfl hl.1 rfl (Nat.le_of_ble_eq_true rfl) dX7_needs_21 ⟨Nat.le_of_ble_eq_true rfl, Nat.le_of_ble_eq_true rfl⟩ (fun r_19 hq_20 => ?_)
      refine lv_goto (tgt := 33) hx hb dX7_needs_24 (by decide) ?_
      rw [hQ]
      exact W.iret (v := r_19) hx hb hr (fun t ht hW => ⟨⟨r_19, C, rfl, ⟨hT, hF, hR⟩, ⟨by rw [ht]; exact hP, hD⟩⟩, hS.F ht⟩) hS.2.2 dX7_needs_33

set_option maxHeartbeats 4000000 in
set_option maxRecDepth 100000 in
theorem c_X7_goes (l : Launch) (D : va_G) (E : Nat → ClassId) (G : Nat → Nat) (sz : Nat) (a : Nat → Nat) (C : Nat → va_E) (n : Nat) (hn : 74 ≤ n) (hT : TyM a E C) (x1 : Int32) (x2 : Int32) (x3 : Int32) (x4 : Int32) (hR : RelM C) : Met l yX7_goes (oh_w yX7_goes cX7_goes 6 (some .int)) ({ frames := 5, cells := 0, slots := 0, locals := 123 }) (oh_Pm D E G [.ref (a 0), .int x1, .int x2, .int x3, .int x4] (oh_W n a C) sz) (va_Qi (fun r (u : Nat → va_E) => TyM a E u ∧ fr [(8, 9)] [] C u ∧ (RelM u)) (oh_B D (va_A (oh_W n a C) sz) (fun u => oh_W n a u)) (va_A (oh_W n a C) sz)) 0 0 (va_A (oh_W n a C) sz) := by
  refine Met.ofW (cc := cX7_goes) (maxL := 6) (ret := (some .int)) (by decide) rfl ?_
  intro p e s m args below meth c s₁ B hml hv
  obtain ⟨rfl, hsz, hP, hK, hD0, hG⟩ := hv
  have hx := B.exec
  have hb := B.bytes
  have hr := B.returns
  have hts := atoms_spec (ws := (oh_w yX7_goes cX7_goes 6 (some .int))) B.pre
  have htg : ∀ w ∈ oh_t, w.before _ s = true := fun w h => hts w (List.mem_cons_of_mem _ h)
  have hown : s.vm.findClass RX7 = some m.cls := findClass_of_methodNamed B.named
  have hlocks := B.notSynchronized
  have hT0 := hT
  subst hsz
  have hD := hD0.self (sz := s.heap.size)
  generalize hAe : va_A (oh_W n a C) s.heap.size = A at hD hG ⊢
  have hA : ∀ q : Nat, s.heap.size ≤ q → A q := fun q h => by rw [← hAe]; exact Or.inr h
  have hS : va_S A s.heap s.heap [] := va_S.rf
  have hF : fr [(8, 9)] [] C C := fr_rf
  have hl := lv_entry ([.ref (a 0), .int x1, .int x2, .int x3, .int x4]) (n := 6) (Nat.le_of_ble_eq_true rfl)
  rw [lg_entry_eq]
  generalize (lg_sl ([.ref (a 0), .int x1, .int x2, .int x3, .int x4]) ++ List.replicate (6 - (lg_sl ([.ref (a 0), .int x1, .int x2, .int x3, .int x4])).length) Slot.unset).toArray = ls at hl ⊢
  have hl : lv_has ls 6 [(0, .ref (a 0)), (1, .int x1), (2, .int x2), (3, .int x3), (4, .int x4)] := hl
  refine oh_genQ (fun Q hQ => ?_)
  refine lv_aload_n hx hb dX7_goes_0 rfl (lv_at hl 0 rfl) ?_
  refine lv_iload_n hx hb dX7_goes_1 rfl (lv_at hl 1 rfl) ?_
  refine lv_iload_n hx hb dX7_goes_2 rfl (lv_at hl 2 rfl) ?_
  refine tq_V (As := [.int x1, .int x2]) (rest := []) (ws := (oh_W n a C)) ⟨hx, hb, hml, hown, htg⟩ (c_X7_isPack l D E G a C n hn hT x1 x2 hR.1) (cwV 2 htg (oh_gV q_1290 q_1292 q_50 q_73 q_1293) rfl rfl rfl pdVX7_isPack ⟨Nat.le_of_ble_eq_true rfl, Nat.le_of_ble_eq_true rfl⟩) hK hP hG hS (va_recv hK hP (ci := 7) (q0 := 0) rfl (oh_wg (Nat.lt_of_lt_of_le (by decide) hn) (sM_0 hT))) rfl hl.1 rfl (Nat.le_of_ble_eq_true rfl) dX7_goes_3 ⟨Nat.le_of_ble_eq_true rfl, Nat.le_of_ble_eq_true rfl⟩ (fun r_1 hq_2 => ?_)
  refine lv_if_eq (tgt := 30) hx hb dX7_goes_6 (by decide) (fun (c_3 : r_1 = 0) => ?_) (fun (c_3 : ¬ (r_1 = 0)) => ?_)
  · refine lv_aload_n hx hb dX7_goes_30 rfl (lv_at hl 0 rfl) ?_
    refine lv_bipush (v := (-2)) hx hb dX7_goes_31 (by decide) ?_
    refine tm_V (As := [.int (-2)]) (rest := []) ⟨hx, hb, hml, hown, htg⟩ (c_X7_refuse l D E G _ a C n hn hT ((-2) : Int32) (rg_w (rg_c (v := (-2)) (lo := (-2)) (hi := (-2)) (by decide)) (by decide))) (cwV 1 htg (oh_gV q_1071 q_1073 q_29 q_73 q_1074) rfl rfl rfl pdVX7_refuse ⟨Nat.le_of_ble_eq_true rfl, Nat.le_of_ble_eq_true rfl⟩) hK hP hD hG hS hA (va_recv hK hP (ci := 7) (q0 := 0) rfl (oh_wg (Nat.lt_of_lt_of_le (by decide) hn) (sM_0 hT))) rfl hl.1 rfl (Nat.le_of_ble_eq_true rfl) dX7_goes_33 ⟨Nat.le_of_ble_eq_true rfl, Nat.le_of_ble_eq_true rfl⟩ (fun r_4 C_5 H locs hq_6 hP hD hS => ?_)
    obtain ⟨hT, f_7, hq_6⟩ := hq_6
    have hF := fr_tr hF f_7 (by decide) (by decide)
    refine W.widen (k := 0) (n := 0) (Nat.le_refl _) (Nat.le_refl _) ?_
    have t_8 := hT
    rw [hQ]
    exact W.iret (v := r_4) hx hb hr (fun t ht hW => ⟨⟨r_4, C_5, rfl, ⟨hT, hF, ⟨hR.1.fr hF (by decide), hR.2.fr hF (by decide)⟩⟩, ⟨by rw [ht]; exact hP, hD⟩⟩, hS.F ht⟩) hS.2.2 dX7_goes_36
  · have u_9 := hq_2.2 c_3
    refine lv_aload_n hx hb dX7_goes_9 rfl (lv_at hl 0 rfl) ?_
    refine lv_iload_n hx hb dX7_goes_10 rfl (lv_at hl 3 rfl) ?_
    refine tq_V (As := [.int x3]) (rest := []) (ws := (oh_W n a C)) ⟨hx, hb, hml, hown, htg⟩ (c_X7_isRoad l D E G a C n hn hT x3) (cwV 1 htg (oh_gV q_1145 q_1147 q_36 q_73 q_1148) rfl rfl rfl pdVX7_isRoad ⟨Nat.le_of_ble_eq_true rfl, Nat.le_of_ble_eq_true rfl⟩) hK hP hG hS (va_recv hK hP (ci := 7) (q0 := 0) rfl (oh_wg (Nat.lt_of_lt_of_le (by decide) hn) (sM_0 hT))) rfl hl.1 rfl (Nat.le_of_ble_eq_true rfl) dX7_goes_11 ⟨Nat.le_of_ble_eq_true rfl, Nat.le_of_ble_eq_true rfl⟩ (fun r_10 hq_11 => ?_)
    refine lv_if_eq (tgt := 30) hx hb dX7_goes_14 (by decide) (fun (c_12 : r_10 = 0) => ?_) (fun (c_12 : ¬ (r_10 = 0)) => ?_)
    · refine lv_aload_n hx hb dX7_goes_30 rfl (lv_at hl 0 rfl) ?_
      refine lv_bipush (v := (-2)) hx hb dX7_goes_31 (by decide) ?_
      refine tm_V (As := [.int (-2)]) (rest := []) ⟨hx, hb, hml, hown, htg⟩ (c_X7_refuse l D E G _ a C n hn hT ((-2) : Int32) (rg_w (rg_c (v := (-2)) (lo := (-2)) (hi := (-2)) (by decide)) (by decide))) (cwV 1 htg (oh_gV q_1071 q_1073 q_29 q_73 q_1074) rfl rfl rfl pdVX7_refuse ⟨Nat.le_of_ble_eq_true rfl, Nat.le_of_ble_eq_true rfl⟩) hK hP hD hG hS hA (va_recv hK hP (ci := 7) (q0 := 0) rfl (oh_wg (Nat.lt_of_lt_of_le (by decide) hn) (sM_0 hT))) rfl hl.1 rfl (Nat.le_of_ble_eq_true rfl) dX7_goes_33 ⟨Nat.le_of_ble_eq_true rfl, Nat.le_of_ble_eq_true rfl⟩ (fun r_13 C_14 H locs hq_15 hP hD hS => ?_)
      obtain ⟨hT, f_16, hq_15⟩ := hq_15
      have hF := fr_tr hF f_16 (by decide) (by decide)
      refine W.widen (k := 0) (n := 0) (Nat.le_refl _) (Nat.le_refl _) ?_
      have t_17 := hT
      rw [hQ]
      exact W.iret (v := r_13) hx hb hr (fun t ht hW => ⟨⟨r_13, C_14, rfl, ⟨hT, hF, ⟨hR.1.fr hF (by decide), hR.2.fr hF (by decide)⟩⟩, ⟨by rw [ht]; exact hP, hD⟩⟩, hS.F ht⟩) hS.2.2 dX7_goes_36
    · have u_18 := hq_11.2 c_12
      refine lv_iload hx hb dX7_goes_17 (lv_at hl 4 rfl) ?_
      refine lv_i2l (v := Int32.toInt64 x4) hx hb dX7_goes_19 (by rfl) ?_
      refine lv_lconst (v := 0) hx hb dX7_goes_20 (by decide) ?_
      refine lv_ldc2 (v := 4) hx hb hown (htg _ q_1069) dX7_goes_21 ?_
      refine tq_S (As := [.long (Int32.toInt64 x4), .long 0, .long 4]) (rest := []) (ws := []) ⟨hx, hb, hml, hown, htg⟩ (c_X7_in l D E G (Int32.toInt64 x4) (0 : Int64) (4 : Int64)) (va_cwS 3 htg (oh_gS q_1066 q_1067 q_73 q_1068) rfl rfl rfl pdX7_in ⟨Nat.le_of_ble_eq_true rfl, Nat.le_of_ble_eq_true rfl⟩) hK va_nil hG hS rfl hl.1 rfl (Nat.le_of_ble_eq_true rfl) dX7_goes_24 ⟨Nat.le_of_ble_eq_true rfl, Nat.le_of_ble_eq_true rfl⟩ (fun r_19 hq_20 => ?_)
      refine lv_if_ne (tgt := 37) hx hb dX7_goes_27 (by decide) (fun (c_21 : ¬ (r_19 = 0)) => ?_) (fun (c_21 : r_19 = 0) => ?_)
      · have u_22 := hq_20.2.1 c_21
        refine lv_aload_n hx hb dX7_goes_37 rfl (lv_at hl 0 rfl) ?_
        refine lv_iload_n hx hb dX7_goes_38 rfl (lv_at hl 1 rfl) ?_
        refine lv_iload_n hx hb dX7_goes_39 rfl (lv_at hl 2 rfl) ?_
        refine lv_iload_n hx hb dX7_goes_40 rfl (lv_at hl 3 rfl) ?_
        refine tq_V (As := [.int x1, .int x2, .int x3]) (rest := []) (ws := (oh_W n a C)) ⟨hx, hb, hml, hown, htg⟩ (c_X7_goesOf l D E G a C n hn hT x1 x2 x3 (rg_w u_9.1 (by decide)) (rg_w u_18 (by decide)) u_9.2.1) (cwV 3 htg (oh_gV q_1318 q_1320 q_54 q_73 q_1321) rfl rfl rfl pdVX7_goesOf ⟨Nat.le_of_ble_eq_true rfl, Nat.le_of_ble_eq_true rfl⟩) hK hP hG hS (va_recv hK hP (ci := 7) (q0 := 0) rfl (oh_wg (Nat.lt_of_lt_of_le (by decide) hn) (sM_0 hT))) rfl hl.1 rfl (Nat.le_of_ble_eq_true rfl) dX7_goes_41 ⟨Nat.le_of_ble_eq_true rfl, Nat.le_of_ble_eq_true rfl⟩ (fun r_23 hq_24 => ?_)
        refine lv_istore (lv' := [(5, .int r_23), (0, .ref (a 0)), (1, .int x1), (2, .int x2), (3, .int x3), (4, .int x4)]) hx hb dX7_goes_44 hl (by decide) rfl (fun ls hl => ?_)
        refine lv_iload hx hb dX7_goes_46 (lv_at hl 5 rfl) ?_
        refine lv_if_ne (tgt := 62) hx hb dX7_goes_48 (by decide) (fun (c_25 : ¬ (x4 = 0)) => ?_) (fun (c_25 : x4 = 0) => ?_)
        · refine lv_iload hx hb dX7_goes_62 (lv_at hl 5 rfl) ?_
          refine lv_iconst (v := 3) hx hb dX7_goes_64 (by decide) ?_
          refine lv_icmp_ne (tgt := 76) hx hb dX7_goes_65 (by decide) (fun (c_26 : ¬ (x4 = 3)) => ?_) (fun (c_26 : x4 = 3) => ?_)
          · refine lv_iload hx hb dX7_goes_76 (lv_at hl 0 rfl) ?_
            refine lv_if_ne (tgt := 88) hx hb dX7_goes_78 (by decide) (fun (c_27 : ¬ (r_23 = 0)) => ?_) (fun (c_27 : r_23 = 0) => ?_)
            · refine lv_iload hx hb dX7_goes_88 (lv_at hl 5 rfl) ?_
              refine lv_iconst (v := 1) hx hb dX7_goes_90 (by decide) ?_
              refine lv_icmp_ne (tgt := 105) hx hb dX7_goes_91 (by decide) (fun (c_28 : ¬ (x4 = 1)) => ?_) (fun (c_28 : x4 = 1) => ?_)
              · refine lv_iload hx hb dX7_goes_105 (lv_at hl 5 rfl) ?_
                refine lv_iconst (v := 2) hx hb dX7_goes_107 (by decide) ?_
                refine lv_icmp_ne (tgt := 121) hx hb dX7_goes_108 (by decide) (fun (c_29 : ¬ (x4 = 2)) => ?_) (fun (c_29 : x4 = 2) => ?_)
                · refine lv_aload_n hx hb dX7_goes_121 rfl (lv_at hl 1 rfl) ?_
                  refine lv_iload_n hx hb dX7_goes_122 rfl (lv_at hl 2 rfl) ?_
                  refine lv_iload_n hx hb dX7_goes_123 rfl (lv_at hl 3 rfl) ?_
                  refine lv_iload_n hx hb dX7_goes_124 rfl (lv_at hl 4 rfl) ?_
                  refine lv_iconst (v := 0) hx hb dX7_goes_125 (by decide) ?_
                  refine tq_V (As := [.int x1, .int x2, .int x3, .int 0]) (rest := []) (ws := (oh_W n a C)) ⟨hx, hb, hml, hown, htg⟩ (c_X7_propsOf l D E G a C n hn hT x1 x2 x3 (0 : Int32) (rg_w u_9.1 (by decide)) (rg_w (rg_c (v := 0) (lo := 0) (hi := 0) (by decide)) (by decide)) u_9.2.1) (cwV 4 htg (oh_gV q_1330 q_1332 q_57 q_73 q_1333) rfl rfl rfl pdVX7_propsOf ⟨Nat.le_of_ble_eq_true rfl, Nat.le_of_ble_eq_true rfl⟩) hK hP hG hS (va_recv hK hP (ci := 7) (q0 := 0) rfl (oh_wg (Nat.lt_of_lt_of_le (by decide) hn) (sM_0 hT))) rfl hl.1 rfl (Nat.le_of_ble_eq_true rfl) dX7_goes_126 ⟨Nat.le_of_ble_eq_true rfl, Nat.le_of_ble_eq_true rfl⟩ (fun r_30 hq_31 => ?_)
                  rw [hQ]
                  exact W.iret (v := r_30) hx hb hr (fun t ht hW => ⟨⟨r_30, C, rfl, ⟨hT, hF, hR⟩, ⟨by rw [ht]; exact hP, hD⟩⟩, hS.F ht⟩) hS.2.2 dX7_goes_129
                · refine lv_aload_n hx hb dX7_goes_111 rfl (lv_at hl 1 rfl) ?_
                  refine lv_iload_n hx hb dX7_goes_112 rfl (lv_at hl 2 rfl) ?_
                  refine lv_iload_n hx hb dX7_goes_113 rfl (lv_at hl 3 rfl) ?_
                  refine lv_iload_n hx hb dX7_goes_114 rfl (lv_at hl 4 rfl) ?_
                  refine tq_V (As := [.int x1, .int x2, .int x3]) (rest := []) (ws := (oh_W n a C)) ⟨hx, hb, hml, hown, htg⟩ (c_X7_daysOf l D E G a C n hn hT x1 x2 x3 (rg_w u_9.1 (by decide)) (rg_w u_18 (by decide)) u_9.2.1) (cwV 3 htg (oh_gV q_1334 q_1336 q_58 q_73 q_1337) rfl rfl rfl pdVX7_daysOf ⟨Nat.le_of_ble_eq_true rfl, Nat.le_of_ble_eq_true rfl⟩) hK hP hG hS (va_recv hK hP (ci := 7) (q0 := 0) rfl (oh_wg (Nat.lt_of_lt_of_le (by decide) hn) (sM_0 hT))) rfl hl.1 rfl (Nat.le_of_ble_eq_true rfl) dX7_goes_115 ⟨Nat.le_of_ble_eq_true rfl, Nat.le_of_ble_eq_true rfl⟩ (fun r_32 hq_33 => ?_)
                  refine lv_goto (tgt := 129) hx hb dX7_goes_118 (by decide) ?_
                  rw [hQ]
                  exact W.iret (v := r_32) hx hb hr (fun t ht hW => ⟨⟨r_32, C, rfl, ⟨hT, hF, hR⟩, ⟨by rw [ht]; exact hP, hD⟩⟩, hS.F ht⟩) hS.2.2 dX7_goes_129
              · refine lv_aload_n hx hb dX7_goes_94 rfl (lv_at hl 1 rfl) ?_
                refine lv_iload_n hx hb dX7_goes_95 rfl (lv_at hl 2 rfl) ?_
                refine lv_iload_n hx hb dX7_goes_96 rfl (lv_at hl 3 rfl) ?_
                refine lv_iload_n hx hb dX7_goes_97 rfl (lv_at hl 4 rfl) ?_
                refine lv_iconst (v := 1) hx hb dX7_goes_98 (by decide) ?_
                refine tq_V (As := [.int x1, .int x2, .int x3, .int 1]) (rest := []) (ws := (oh_W n a C)) ⟨hx, hb, hml, hown, htg⟩ (c_X7_coinOf l D E G a C n hn hT x1 x2 x3 (1 : Int32) (rg_w u_9.1 (by decide)) (rg_w u_18 (by decide)) u_9.2.1) (cwV 4 htg (oh_gV q_1326 q_1328 q_56 q_73 q_1329) rfl rfl rfl pdVX7_coinOf ⟨Nat.le_of_ble_eq_true rfl, Nat.le_of_ble_eq_true rfl⟩) hK hP hG hS (va_recv hK hP (ci := 7) (q0 := 0) rfl (oh_wg (Nat.lt_of_lt_of_le (by decide) hn) (sM_0 hT))) rfl hl.1 rfl (Nat.le_of_ble_eq_true rfl) dX7_goes_99 ⟨Nat.le_of_ble_eq_true rfl, Nat.le_of_ble_eq_true rfl⟩ (fun r_34 hq_35 => ?_)
                refine lv_goto (tgt := 129) hx hb dX7_goes_102 (by decide) ?_
                rw [hQ]
                exact W.iret (v := r_34) hx hb hr (fun t ht hW => ⟨⟨r_34, C, rfl, ⟨hT, hF, hR⟩, ⟨by rw [ht]; exact hP, hD⟩⟩, hS.F ht⟩) hS.2.2 dX7_goes_129
            · refine lv_aload_n hx hb dX7_goes_81 rfl (lv_at hl 1 rfl) ?_
              refine lv_bipush (v := (-5)) hx hb dX7_goes_82 (by decide) ?_
              refine tm_V (As := [.int (-5)]) (rest := []) ⟨hx, hb, hml, hown, htg⟩ (c_X7_refuse l D E G _ a C n hn hT ((-5) : Int32) (rg_w (rg_c (v := (-5)) (lo := (-5)) (hi := (-5)) (by decide)) (by decide))) (cwV 1 htg (oh_gV q_1071 q_1073 q_29 q_73 q_1074) rfl rfl rfl pdVX7_refuse ⟨Nat.le_of_ble_eq_true rfl, Nat.le_of_ble_eq_true rfl⟩) hK hP hD hG hS hA (va_recv hK hP (ci := 7) (q0 := 0) rfl (oh_wg (Nat.lt_of_lt_of_le (by decide) hn) (sM_0 hT))) rfl hl.1 rfl (Nat.le_of_ble_eq_true rfl) dX7_goes_84 ⟨Nat.le_of_ble_eq_true rfl, Nat.le_of_ble_eq_true rfl⟩ (fun r_36 C_37 H locs hq_38 hP hD hS => ?_)
              obtain ⟨hT, f_39, hq_38⟩ := hq_38
              have hF := fr_tr hF f_39 (by decide) (by decide)
              refine W.widen (k := 0) (n := 0) (Nat.le_refl _) (Nat.le_refl _) ?_
              have t_40 := hT
              rw [hQ]
              exact W.iret (v := r_36) hx hb hr (fun t ht hW => ⟨⟨r_36, C_37, rfl, ⟨hT, hF, ⟨hR.1.fr hF (by decide), hR.2.fr hF (by decide)⟩⟩, ⟨by rw [ht]; exact hP, hD⟩⟩, hS.F ht⟩) hS.2.2 dX7_goes_87
          · refine lv_aload_n hx hb dX7_goes_68 rfl (lv_at hl 1 rfl) ?_
            refine lv_iload_n hx hb dX7_goes_69 rfl (lv_at hl 2 rfl) ?_
            refine lv_iload_n hx hb dX7_goes_70 rfl (lv_at hl 3 rfl) ?_
            refine lv_iload_n hx hb dX7_goes_71 rfl (lv_at hl 4 rfl) ?_
            refine tq_V (As := [.int x1, .int x2, .int x3]) (rest := []) (ws := (oh_W n a C)) ⟨hx, hb, hml, hown, htg⟩ (c_X7_enginesOf l D E G a C n hn hT x1 x2 x3 (rg_w u_9.1 (by decide)) (rg_w u_18 (by decide)) u_9.2.1) (cwV 3 htg (oh_gV q_1322 q_1324 q_55 q_73 q_1325) rfl rfl rfl pdVX7_enginesOf ⟨Nat.le_of_ble_eq_true rfl, Nat.le_of_ble_eq_true rfl⟩) hK hP hG hS (va_recv hK hP (ci := 7) (q0 := 0) rfl (oh_wg (Nat.lt_of_lt_of_le (by decide) hn) (sM_0 hT))) rfl hl.1 rfl (Nat.le_of_ble_eq_true rfl) dX7_goes_72 ⟨Nat.le_of_ble_eq_true rfl, Nat.le_of_ble_eq_true rfl⟩ (fun r_41 hq_42 => ?_)
            rw [hQ]
            exact W.iret (v := r_41) hx hb hr (fun t ht hW => ⟨⟨r_41, C, rfl, ⟨hT, hF, hR⟩, ⟨by rw [ht]; exact hP, hD⟩⟩, hS.F ht⟩) hS.2.2 dX7_goes_75
        · refine lv_iload hx hb dX7_goes_51 (lv_at hl 0 rfl) ?_
          refine lv_if_eq (tgt := 60) hx hb dX7_goes_53 (by decide) (fun (c_43 : r_23 = 0) => ?_) (fun (c_43 : ¬ (r_23 = 0)) => ?_)
          · refine lv_iconst (v := 0) hx hb dX7_goes_60 (by decide) ?_
            rw [hQ]
            exact W.iret (v := 0) hx hb hr (fun t ht hW => ⟨⟨0, C, rfl, ⟨hT, hF, hR⟩, ⟨by rw [ht]; exact hP, hD⟩⟩, hS.F ht⟩) hS.2.2 dX7_goes_61
          · refine lv_iconst (v := 1) hx hb dX7_goes_56 (by decide) ?_
            refine lv_goto (tgt := 61) hx hb dX7_goes_57 (by decide) ?_
            rw [hQ]
            exact W.iret (v := 1) hx hb hr (fun t ht hW => ⟨⟨1, C, rfl, ⟨hT, hF, hR⟩, ⟨by rw [ht]; exact hP, hD⟩⟩, hS.F ht⟩) hS.2.2 dX7_goes_61
      · have u_44 := hq_20.2.2 c_21
        refine lv_aload_n hx hb dX7_goes_30 rfl (lv_at hl 0 rfl) ?_
        refine lv_bipush (v := (-2)) hx hb dX7_goes_31 (by decide) ?_
        refine tm_V (As := [.int (-2)]) (rest := []) ⟨hx, hb, hml, hown, htg⟩ (c_X7_refuse l D E G _ a C n hn hT ((-2) : Int32) (rg_w (rg_c (v := (-2)) (lo := (-2)) (hi := (-2)) (by decide)) (by decide))) (cwV 1 htg (oh_gV q_1071 q_1073 q_29 q_73 q_1074) rfl rfl rfl pdVX7_refuse ⟨Nat.le_of_ble_eq_true rfl, Nat.le_of_ble_eq_true rfl⟩) hK hP hD hG hS hA (va_recv hK hP (ci := 7) (q0 := 0) rfl (oh_wg (Nat.lt_of_lt_of_le (by decide) hn) (sM_0 hT))) rfl hl.1 rfl (Nat.le_of_ble_eq_true rfl) dX7_goes_33 ⟨Nat.le_of_ble_eq_true rfl, Nat.le_of_ble_eq_true rfl⟩ (fun r_45 C_46 H locs hq_47 hP hD hS => ?_)
        obtain ⟨hT, f_48, hq_47⟩ := hq_47
        have hF := fr_tr hF f_48 (by decide) (by decide)
        refine W.widen (k := 0) (n := 0) (Nat.le_refl _) (Nat.le_refl _) ?_
        have t_49 := hT
        rw [hQ]
        exact W.iret (v := r_45) hx hb hr (fun t ht hW => ⟨⟨r_45, C_46, rfl, ⟨hT, hF, ⟨hR.1.fr hF (by decide), hR.2.fr hF (by decide)⟩⟩, ⟨by rw [ht]; exact hP, hD⟩⟩, hS.F ht⟩) hS.2.2 dX7_goes_36
