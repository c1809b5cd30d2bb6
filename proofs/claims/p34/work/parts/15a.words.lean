theorem bg_dJ6_bitCount_0f7a4_0 : bysAt cJ6_bitCount_0f7a4 0 [26, 26, 4, 124, 19, 1, 9, 126, 100, 59, 26, 19, 1, 10, 126, 26, 5, 124] := bysAt_of (by decide +kernel)
theorem dJ6_bitCount_0f7a4_0 : decode cJ6_bitCount_0f7a4 0 = .ok (.iload_n 0, 1) := o_26 (bg_dJ6_bitCount_0f7a4_0 0 26 rfl)
theorem dJ6_bitCount_0f7a4_1 : decode cJ6_bitCount_0f7a4 1 = .ok (.iload_n 0, 1) := o_26 (bg_dJ6_bitCount_0f7a4_0 1 26 rfl)
theorem dJ6_bitCount_0f7a4_2 : decode cJ6_bitCount_0f7a4 2 = .ok (.iconst 1, 1) := o_4 (bg_dJ6_bitCount_0f7a4_0 2 4 rfl)
theorem dJ6_bitCount_0f7a4_3 : decode cJ6_bitCount_0f7a4 3 = .ok (.iushr, 1) := o_124 (bg_dJ6_bitCount_0f7a4_0 3 124 rfl)
theorem dJ6_bitCount_0f7a4_4 : decode cJ6_bitCount_0f7a4 4 = .ok (.ldc_w 265, 3) := o_19 (bg_dJ6_bitCount_0f7a4_0 4 19 rfl) (bg_dJ6_bitCount_0f7a4_0 5 1 rfl) (bg_dJ6_bitCount_0f7a4_0 6 9 rfl)
theorem dJ6_bitCount_0f7a4_7 : decode cJ6_bitCount_0f7a4 7 = .ok (.iand, 1) := o_126 (bg_dJ6_bitCount_0f7a4_0 7 126 rfl)
theorem dJ6_bitCount_0f7a4_8 : decode cJ6_bitCount_0f7a4 8 = .ok (.isub, 1) := o_100 (bg_dJ6_bitCount_0f7a4_0 8 100 rfl)
theorem dJ6_bitCount_0f7a4_9 : decode cJ6_bitCount_0f7a4 9 = .ok (.istore_n 0, 1) := o_59 (bg_dJ6_bitCount_0f7a4_0 9 59 rfl)
theorem dJ6_bitCount_0f7a4_10 : decode cJ6_bitCount_0f7a4 10 = .ok (.iload_n 0, 1) := o_26 (bg_dJ6_bitCount_0f7a4_0 10 26 rfl)
theorem dJ6_bitCount_0f7a4_11 : decode cJ6_bitCount_0f7a4 11 = .ok (.ldc_w 266, 3) := o_19 (bg_dJ6_bitCount_0f7a4_0 11 19 rfl) (bg_dJ6_bitCount_0f7a4_0 12 1 rfl) (bg_dJ6_bitCount_0f7a4_0 13 10 rfl)
theorem dJ6_bitCount_0f7a4_14 : decode cJ6_bitCount_0f7a4 14 = .ok (.iand, 1) := o_126 (bg_dJ6_bitCount_0f7a4_0 14 126 rfl)
theorem dJ6_bitCount_0f7a4_15 : decode cJ6_bitCount_0f7a4 15 = .ok (.iload_n 0, 1) := o_26 (bg_dJ6_bitCount_0f7a4_0 15 26 rfl)
theorem dJ6_bitCount_0f7a4_16 : decode cJ6_bitCount_0f7a4 16 = .ok (.iconst 2, 1) := o_5 (bg_dJ6_bitCount_0f7a4_0 16 5 rfl)
theorem dJ6_bitCount_0f7a4_17 : decode cJ6_bitCount_0f7a4 17 = .ok (.iushr, 1) := o_124 (bg_dJ6_bitCount_0f7a4_0 17 124 rfl)
theorem bg_dJ6_bitCount_0f7a4_18 : bysAt cJ6_bitCount_0f7a4 18 [19, 1, 10, 126, 96, 59, 26, 26, 7, 124, 96, 19, 1, 11, 126, 59, 26, 26] := bysAt_of (by decide +kernel)
theorem dJ6_bitCount_0f7a4_18 : decode cJ6_bitCount_0f7a4 18 = .ok (.ldc_w 266, 3) := o_19 (bg_dJ6_bitCount_0f7a4_18 0 19 rfl) (bg_dJ6_bitCount_0f7a4_18 1 1 rfl) (bg_dJ6_bitCount_0f7a4_18 2 10 rfl)
theorem dJ6_bitCount_0f7a4_21 : decode cJ6_bitCount_0f7a4 21 = .ok (.iand, 1) := o_126 (bg_dJ6_bitCount_0f7a4_18 3 126 rfl)
theorem dJ6_bitCount_0f7a4_22 : decode cJ6_bitCount_0f7a4 22 = .ok (.iadd, 1) := o_96 (bg_dJ6_bitCount_0f7a4_18 4 96 rfl)
theorem dJ6_bitCount_0f7a4_23 : decode cJ6_bitCount_0f7a4 23 = .ok (.istore_n 0, 1) := o_59 (bg_dJ6_bitCount_0f7a4_18 5 59 rfl)
theorem dJ6_bitCount_0f7a4_24 : decode cJ6_bitCount_0f7a4 24 = .ok (.iload_n 0, 1) := o_26 (bg_dJ6_bitCount_0f7a4_18 6 26 rfl)
theorem dJ6_bitCount_0f7a4_25 : decode cJ6_bitCount_0f7a4 25 = .ok (.iload_n 0, 1) := o_26 (bg_dJ6_bitCount_0f7a4_18 7 26 rfl)
theorem dJ6_bitCount_0f7a4_26 : decode cJ6_bitCount_0f7a4 26 = .ok (.iconst 4, 1) := o_7 (bg_dJ6_bitCount_0f7a4_18 8 7 rfl)
theorem dJ6_bitCount_0f7a4_27 : decode cJ6_bitCount_0f7a4 27 = .ok (.iushr, 1) := o_124 (bg_dJ6_bitCount_0f7a4_18 9 124 rfl)
theorem dJ6_bitCount_0f7a4_28 : decode cJ6_bitCount_0f7a4 28 = .ok (.iadd, 1) := o_96 (bg_dJ6_bitCount_0f7a4_18 10 96 rfl)
theorem dJ6_bitCount_0f7a4_29 : decode cJ6_bitCount_0f7a4 29 = .ok (.ldc_w 267, 3) := o_19 (bg_dJ6_bitCount_0f7a4_18 11 19 rfl) (bg_dJ6_bitCount_0f7a4_18 12 1 rfl) (bg_dJ6_bitCount_0f7a4_18 13 11 rfl)
theorem dJ6_bitCount_0f7a4_32 : decode cJ6_bitCount_0f7a4 32 = .ok (.iand, 1) := o_126 (bg_dJ6_bitCount_0f7a4_18 14 126 rfl)
theorem dJ6_bitCount_0f7a4_33 : decode cJ6_bitCount_0f7a4 33 = .ok (.istore_n 0, 1) := o_59 (bg_dJ6_bitCount_0f7a4_18 15 59 rfl)
theorem dJ6_bitCount_0f7a4_34 : decode cJ6_bitCount_0f7a4 34 = .ok (.iload_n 0, 1) := o_26 (bg_dJ6_bitCount_0f7a4_18 16 26 rfl)
theorem dJ6_bitCount_0f7a4_35 : decode cJ6_bitCount_0f7a4 35 = .ok (.iload_n 0, 1) := o_26 (bg_dJ6_bitCount_0f7a4_18 17 26 rfl)
theorem bg_dJ6_bitCount_0f7a4_36 : bysAt cJ6_bitCount_0f7a4 36 [16, 8, 124, 96, 59, 26, 26, 16, 16, 124, 96, 59, 26, 16, 63, 126, 172] := bysAt_of (by decide +kernel)
theorem dJ6_bitCount_0f7a4_36 : decode cJ6_bitCount_0f7a4 36 = .ok (.bipush 8, 2) := o_16 (bg_dJ6_bitCount_0f7a4_36 0 16 rfl) (bg_dJ6_bitCount_0f7a4_36 1 8 rfl) (by decide +kernel)
theorem dJ6_bitCount_0f7a4_38 : decode cJ6_bitCount_0f7a4 38 = .ok (.iushr, 1) := o_124 (bg_dJ6_bitCount_0f7a4_36 2 124 rfl)
theorem dJ6_bitCount_0f7a4_39 : decode cJ6_bitCount_0f7a4 39 = .ok (.iadd, 1) := o_96 (bg_dJ6_bitCount_0f7a4_36 3 96 rfl)
theorem dJ6_bitCount_0f7a4_40 : decode cJ6_bitCount_0f7a4 40 = .ok (.istore_n 0, 1) := o_59 (bg_dJ6_bitCount_0f7a4_36 4 59 rfl)
theorem dJ6_bitCount_0f7a4_41 : decode cJ6_bitCount_0f7a4 41 = .ok (.iload_n 0, 1) := o_26 (bg_dJ6_bitCount_0f7a4_36 5 26 rfl)
theorem dJ6_bitCount_0f7a4_42 : decode cJ6_bitCount_0f7a4 42 = .ok (.iload_n 0, 1) := o_26 (bg_dJ6_bitCount_0f7a4_36 6 26 rfl)
theorem dJ6_bitCount_0f7a4_43 : decode cJ6_bitCount_0f7a4 43 = .ok (.bipush 16, 2) := o_16 (bg_dJ6_bitCount_0f7a4_36 7 16 rfl) (bg_dJ6_bitCount_0f7a4_36 8 16 rfl) (by decide +kernel)
theorem dJ6_bitCount_0f7a4_45 : decode cJ6_bitCount_0f7a4 45 = .ok (.iushr, 1) := o_124 (bg_dJ6_bitCount_0f7a4_36 9 124 rfl)
theorem dJ6_bitCount_0f7a4_46 : decode cJ6_bitCount_0f7a4 46 = .ok (.iadd, 1) := o_96 (bg_dJ6_bitCount_0f7a4_36 10 96 rfl)
theorem dJ6_bitCount_0f7a4_47 : decode cJ6_bitCount_0f7a4 47 = .ok (.istore_n 0, 1) := o_59 (bg_dJ6_bitCount_0f7a4_36 11 59 rfl)
theorem dJ6_bitCount_0f7a4_48 : decode cJ6_bitCount_0f7a4 48 = .ok (.iload_n 0, 1) := o_26 (bg_dJ6_bitCount_0f7a4_36 12 26 rfl)
theorem dJ6_bitCount_0f7a4_49 : decode cJ6_bitCount_0f7a4 49 = .ok (.bipush 63, 2) := o_16 (bg_dJ6_bitCount_0f7a4_36 13 16 rfl) (bg_dJ6_bitCount_0f7a4_36 14 63 rfl) (by decide +kernel)
theorem dJ6_bitCount_0f7a4_51 : decode cJ6_bitCount_0f7a4 51 = .ok (.iand, 1) := o_126 (bg_dJ6_bitCount_0f7a4_36 15 126 rfl)
theorem dJ6_bitCount_0f7a4_52 : decode cJ6_bitCount_0f7a4 52 = .ok (.ireturn, 1) := o_172 (bg_dJ6_bitCount_0f7a4_36 16 172 rfl)
theorem bg_dX6_ask_0 : bysAt cX6_ask 0 [27, 3, 5, 184, 0, 66, 153, 0, 16, 28, 3, 178, 0, 153, 27, 46, 184, 0, 66, 154, 0, 10, 42, 16, 254] := bysAt_of (by decide +kernel)
theorem dX6_ask_0 : decode cX6_ask 0 = .ok (.iload_n 1, 1) := o_27 (bg_dX6_ask_0 0 27 rfl)
theorem dX6_ask_1 : decode cX6_ask 1 = .ok (.iconst 0, 1) := o_3 (bg_dX6_ask_0 1 3 rfl)
theorem dX6_ask_2 : decode cX6_ask 2 = .ok (.iconst 2, 1) := o_5 (bg_dX6_ask_0 2 5 rfl)
theorem dX6_ask_3 : decode cX6_ask 3 = .ok (.invokestatic 66, 3) := o_184 (bg_dX6_ask_0 3 184 rfl) (bg_dX6_ask_0 4 0 rfl) (bg_dX6_ask_0 5 66 rfl)
theorem dX6_ask_6 : decode cX6_ask 6 = .ok (.ifCond .eq 16, 3) := o_153 (bg_dX6_ask_0 6 153 rfl) (bg_dX6_ask_0 7 0 rfl) (bg_dX6_ask_0 8 16 rfl) (by decide +kernel)
theorem dX6_ask_9 : decode cX6_ask 9 = .ok (.iload_n 2, 1) := o_28 (bg_dX6_ask_0 9 28 rfl)
theorem dX6_ask_10 : decode cX6_ask 10 = .ok (.iconst 0, 1) := o_3 (bg_dX6_ask_0 10 3 rfl)
theorem dX6_ask_11 : decode cX6_ask 11 = .ok (.getstatic 153, 3) := o_178 (bg_dX6_ask_0 11 178 rfl) (bg_dX6_ask_0 12 0 rfl) (bg_dX6_ask_0 13 153 rfl)
theorem dX6_ask_14 : decode cX6_ask 14 = .ok (.iload_n 1, 1) := o_27 (bg_dX6_ask_0 14 27 rfl)
theorem dX6_ask_15 : decode cX6_ask 15 = .ok (.iaload, 1) := o_46 (bg_dX6_ask_0 15 46 rfl)
theorem dX6_ask_16 : decode cX6_ask 16 = .ok (.invokestatic 66, 3) := o_184 (bg_dX6_ask_0 16 184 rfl) (bg_dX6_ask_0 17 0 rfl) (bg_dX6_ask_0 18 66 rfl)
theorem dX6_ask_19 : decode cX6_ask 19 = .ok (.ifCond .ne 10, 3) := o_154 (bg_dX6_ask_0 19 154 rfl) (bg_dX6_ask_0 20 0 rfl) (bg_dX6_ask_0 21 10 rfl) (by decide +kernel)
theorem dX6_ask_22 : decode cX6_ask 22 = .ok (.aload_n 0, 1) := o_42 (bg_dX6_ask_0 22 42 rfl)
theorem dX6_ask_23 : decode cX6_ask 23 = .ok (.bipush (-2), 2) := o_16 (bg_dX6_ask_0 23 16 rfl) (bg_dX6_ask_0 24 254 rfl) (by decide +kernel)
theorem bg_dX6_ask_25 : bysAt cX6_ask 25 [182, 0, 70, 172, 42, 180, 0, 10, 180, 0, 156, 27, 46, 62, 42, 180, 0, 10, 180, 0, 156, 27, 28, 79] := bysAt_of (by decide +kernel)
theorem dX6_ask_25 : decode cX6_ask 25 = .ok (.invokevirtual 70, 3) := o_182 (bg_dX6_ask_25 0 182 rfl) (bg_dX6_ask_25 1 0 rfl) (bg_dX6_ask_25 2 70 rfl)
theorem dX6_ask_28 : decode cX6_ask 28 = .ok (.ireturn, 1) := o_172 (bg_dX6_ask_25 3 172 rfl)
theorem dX6_ask_29 : decode cX6_ask 29 = .ok (.aload_n 0, 1) := o_42 (bg_dX6_ask_25 4 42 rfl)
theorem dX6_ask_30 : decode cX6_ask 30 = .ok (.getfield 10, 3) := o_180 (bg_dX6_ask_25 5 180 rfl) (bg_dX6_ask_25 6 0 rfl) (bg_dX6_ask_25 7 10 rfl)
theorem dX6_ask_33 : decode cX6_ask 33 = .ok (.getfield 156, 3) := o_180 (bg_dX6_ask_25 8 180 rfl) (bg_dX6_ask_25 9 0 rfl) (bg_dX6_ask_25 10 156 rfl)
theorem dX6_ask_36 : decode cX6_ask 36 = .ok (.iload_n 1, 1) := o_27 (bg_dX6_ask_25 11 27 rfl)
theorem dX6_ask_37 : decode cX6_ask 37 = .ok (.iaload, 1) := o_46 (bg_dX6_ask_25 12 46 rfl)
theorem dX6_ask_38 : decode cX6_ask 38 = .ok (.istore_n 3, 1) := o_62 (bg_dX6_ask_25 13 62 rfl)
theorem dX6_ask_39 : decode cX6_ask 39 = .ok (.aload_n 0, 1) := o_42 (bg_dX6_ask_25 14 42 rfl)
theorem dX6_ask_40 : decode cX6_ask 40 = .ok (.getfield 10, 3) := o_180 (bg_dX6_ask_25 15 180 rfl) (bg_dX6_ask_25 16 0 rfl) (bg_dX6_ask_25 17 10 rfl)
theorem dX6_ask_43 : decode cX6_ask 43 = .ok (.getfield 156, 3) := o_180 (bg_dX6_ask_25 18 180 rfl) (bg_dX6_ask_25 19 0 rfl) (bg_dX6_ask_25 20 156 rfl)
theorem dX6_ask_46 : decode cX6_ask 46 = .ok (.iload_n 1, 1) := o_27 (bg_dX6_ask_25 21 27 rfl)
theorem dX6_ask_47 : decode cX6_ask 47 = .ok (.iload_n 2, 1) := o_28 (bg_dX6_ask_25 22 28 rfl)
theorem dX6_ask_48 : decode cX6_ask 48 = .ok (.iastore, 1) := o_79 (bg_dX6_ask_25 23 79 rfl)
theorem bg_dX6_ask_49 : bysAt cX6_ask 49 [29, 172] := bysAt_of (by decide +kernel)
theorem dX6_ask_49 : decode cX6_ask 49 = .ok (.iload_n 3, 1) := o_29 (bg_dX6_ask_49 0 29 rfl)
theorem dX6_ask_50 : decode cX6_ask 50 = .ok (.ireturn, 1) := o_172 (bg_dX6_ask_49 1 172 rfl)
theorem bg_dX6_axle_0 : bysAt cX6_axle 0 [42, 27, 28, 182, 0, 200, 154, 0, 10, 42, 16, 254, 182, 0, 70, 172, 42, 180, 0, 28, 180, 0, 203, 42, 180, 0, 10] := bysAt_of (by decide +kernel)
theorem dX6_axle_0 : decode cX6_axle 0 = .ok (.aload_n 0, 1) := o_42 (bg_dX6_axle_0 0 42 rfl)
theorem dX6_axle_1 : decode cX6_axle 1 = .ok (.iload_n 1, 1) := o_27 (bg_dX6_axle_0 1 27 rfl)
theorem dX6_axle_2 : decode cX6_axle 2 = .ok (.iload_n 2, 1) := o_28 (bg_dX6_axle_0 2 28 rfl)
theorem dX6_axle_3 : decode cX6_axle 3 = .ok (.invokevirtual 200, 3) := o_182 (bg_dX6_axle_0 3 182 rfl) (bg_dX6_axle_0 4 0 rfl) (bg_dX6_axle_0 5 200 rfl)
theorem dX6_axle_6 : decode cX6_axle 6 = .ok (.ifCond .ne 10, 3) := o_154 (bg_dX6_axle_0 6 154 rfl) (bg_dX6_axle_0 7 0 rfl) (bg_dX6_axle_0 8 10 rfl) (by decide +kernel)
theorem dX6_axle_9 : decode cX6_axle 9 = .ok (.aload_n 0, 1) := o_42 (bg_dX6_axle_0 9 42 rfl)
theorem dX6_axle_10 : decode cX6_axle 10 = .ok (.bipush (-2), 2) := o_16 (bg_dX6_axle_0 10 16 rfl) (bg_dX6_axle_0 11 254 rfl) (by decide +kernel)
theorem dX6_axle_12 : decode cX6_axle 12 = .ok (.invokevirtual 70, 3) := o_182 (bg_dX6_axle_0 12 182 rfl) (bg_dX6_axle_0 13 0 rfl) (bg_dX6_axle_0 14 70 rfl)
theorem dX6_axle_15 : decode cX6_axle 15 = .ok (.ireturn, 1) := o_172 (bg_dX6_axle_0 15 172 rfl)
theorem dX6_axle_16 : decode cX6_axle 16 = .ok (.aload_n 0, 1) := o_42 (bg_dX6_axle_0 16 42 rfl)
theorem dX6_axle_17 : decode cX6_axle 17 = .ok (.getfield 28, 3) := o_180 (bg_dX6_axle_0 17 180 rfl) (bg_dX6_axle_0 18 0 rfl) (bg_dX6_axle_0 19 28 rfl)
theorem dX6_axle_20 : decode cX6_axle 20 = .ok (.getfield 203, 3) := o_180 (bg_dX6_axle_0 20 180 rfl) (bg_dX6_axle_0 21 0 rfl) (bg_dX6_axle_0 22 203 rfl)
theorem dX6_axle_23 : decode cX6_axle 23 = .ok (.aload_n 0, 1) := o_42 (bg_dX6_axle_0 23 42 rfl)
theorem dX6_axle_24 : decode cX6_axle 24 = .ok (.getfield 10, 3) := o_180 (bg_dX6_axle_0 24 180 rfl) (bg_dX6_axle_0 25 0 rfl) (bg_dX6_axle_0 26 10 rfl)
theorem bg_dX6_axle_27 : bysAt cX6_axle 27 [27, 28, 182, 0, 207, 42, 180, 0, 28, 180, 0, 203, 180, 0, 213, 172] := bysAt_of (by decide +kernel)
theorem dX6_axle_27 : decode cX6_axle 27 = .ok (.iload_n 1, 1) := o_27 (bg_dX6_axle_27 0 27 rfl)
theorem dX6_axle_28 : decode cX6_axle 28 = .ok (.iload_n 2, 1) := o_28 (bg_dX6_axle_27 1 28 rfl)
theorem dX6_axle_29 : decode cX6_axle 29 = .ok (.invokevirtual 207, 3) := o_182 (bg_dX6_axle_27 2 182 rfl) (bg_dX6_axle_27 3 0 rfl) (bg_dX6_axle_27 4 207 rfl)
theorem dX6_axle_32 : decode cX6_axle 32 = .ok (.aload_n 0, 1) := o_42 (bg_dX6_axle_27 5 42 rfl)
theorem dX6_axle_33 : decode cX6_axle 33 = .ok (.getfield 28, 3) := o_180 (bg_dX6_axle_27 6 180 rfl) (bg_dX6_axle_27 7 0 rfl) (bg_dX6_axle_27 8 28 rfl)
theorem dX6_axle_36 : decode cX6_axle 36 = .ok (.getfield 203, 3) := o_180 (bg_dX6_axle_27 9 180 rfl) (bg_dX6_axle_27 10 0 rfl) (bg_dX6_axle_27 11 203 rfl)
theorem dX6_axle_39 : decode cX6_axle 39 = .ok (.getfield 213, 3) := o_180 (bg_dX6_axle_27 12 180 rfl) (bg_dX6_axle_27 13 0 rfl) (bg_dX6_axle_27 14 213 rfl)
theorem dX6_axle_42 : decode cX6_axle 42 = .ok (.ireturn, 1) := o_172 (bg_dX6_axle_27 15 172 rfl)
theorem bg_dX6_bears_0 : bysAt cX6_bears 0 [42, 27, 182, 0, 112, 154, 0, 10, 42, 16, 254, 182, 0, 70, 172, 28, 153, 0, 22, 42, 180, 0, 10, 27, 42] := bysAt_of (by decide +kernel)
theorem dX6_bears_0 : decode cX6_bears 0 = .ok (.aload_n 0, 1) := o_42 (bg_dX6_bears_0 0 42 rfl)
theorem dX6_bears_1 : decode cX6_bears 1 = .ok (.iload_n 1, 1) := o_27 (bg_dX6_bears_0 1 27 rfl)
theorem dX6_bears_2 : decode cX6_bears 2 = .ok (.invokevirtual 112, 3) := o_182 (bg_dX6_bears_0 2 182 rfl) (bg_dX6_bears_0 3 0 rfl) (bg_dX6_bears_0 4 112 rfl)
theorem dX6_bears_5 : decode cX6_bears 5 = .ok (.ifCond .ne 10, 3) := o_154 (bg_dX6_bears_0 5 154 rfl) (bg_dX6_bears_0 6 0 rfl) (bg_dX6_bears_0 7 10 rfl) (by decide +kernel)
theorem dX6_bears_8 : decode cX6_bears 8 = .ok (.aload_n 0, 1) := o_42 (bg_dX6_bears_0 8 42 rfl)
theorem dX6_bears_9 : decode cX6_bears 9 = .ok (.bipush (-2), 2) := o_16 (bg_dX6_bears_0 9 16 rfl) (bg_dX6_bears_0 10 254 rfl) (by decide +kernel)
theorem dX6_bears_11 : decode cX6_bears 11 = .ok (.invokevirtual 70, 3) := o_182 (bg_dX6_bears_0 11 182 rfl) (bg_dX6_bears_0 12 0 rfl) (bg_dX6_bears_0 13 70 rfl)
theorem dX6_bears_14 : decode cX6_bears 14 = .ok (.ireturn, 1) := o_172 (bg_dX6_bears_0 14 172 rfl)
theorem dX6_bears_15 : decode cX6_bears 15 = .ok (.iload_n 2, 1) := o_28 (bg_dX6_bears_0 15 28 rfl)
theorem dX6_bears_16 : decode cX6_bears 16 = .ok (.ifCond .eq 22, 3) := o_153 (bg_dX6_bears_0 16 153 rfl) (bg_dX6_bears_0 17 0 rfl) (bg_dX6_bears_0 18 22 rfl) (by decide +kernel)
theorem dX6_bears_19 : decode cX6_bears 19 = .ok (.aload_n 0, 1) := o_42 (bg_dX6_bears_0 19 42 rfl)
theorem dX6_bears_20 : decode cX6_bears 20 = .ok (.getfield 10, 3) := o_180 (bg_dX6_bears_0 20 180 rfl) (bg_dX6_bears_0 21 0 rfl) (bg_dX6_bears_0 22 10 rfl)
theorem dX6_bears_23 : decode cX6_bears 23 = .ok (.iload_n 1, 1) := o_27 (bg_dX6_bears_0 23 27 rfl)
theorem dX6_bears_24 : decode cX6_bears 24 = .ok (.aload_n 0, 1) := o_42 (bg_dX6_bears_0 24 42 rfl)
theorem bg_dX6_bears_25 : bysAt cX6_bears 25 [180, 0, 10, 27, 182, 0, 184, 182, 0, 187, 167, 0, 11, 42, 180, 0, 10, 27, 182, 0, 191, 172] := bysAt_of (by decide +kernel)
theorem dX6_bears_25 : decode cX6_bears 25 = .ok (.getfield 10, 3) := o_180 (bg_dX6_bears_25 0 180 rfl) (bg_dX6_bears_25 1 0 rfl) (bg_dX6_bears_25 2 10 rfl)
theorem dX6_bears_28 : decode cX6_bears 28 = .ok (.iload_n 1, 1) := o_27 (bg_dX6_bears_25 3 27 rfl)
theorem dX6_bears_29 : decode cX6_bears 29 = .ok (.invokevirtual 184, 3) := o_182 (bg_dX6_bears_25 4 182 rfl) (bg_dX6_bears_25 5 0 rfl) (bg_dX6_bears_25 6 184 rfl)
theorem dX6_bears_32 : decode cX6_bears 32 = .ok (.invokevirtual 187, 3) := o_182 (bg_dX6_bears_25 7 182 rfl) (bg_dX6_bears_25 8 0 rfl) (bg_dX6_bears_25 9 187 rfl)
theorem dX6_bears_35 : decode cX6_bears 35 = .ok (.goto 11, 3) := o_167 (bg_dX6_bears_25 10 167 rfl) (bg_dX6_bears_25 11 0 rfl) (bg_dX6_bears_25 12 11 rfl) (by decide +kernel)
theorem dX6_bears_38 : decode cX6_bears 38 = .ok (.aload_n 0, 1) := o_42 (bg_dX6_bears_25 13 42 rfl)
theorem dX6_bears_39 : decode cX6_bears 39 = .ok (.getfield 10, 3) := o_180 (bg_dX6_bears_25 14 180 rfl) (bg_dX6_bears_25 15 0 rfl) (bg_dX6_bears_25 16 10 rfl)
theorem dX6_bears_42 : decode cX6_bears 42 = .ok (.iload_n 1, 1) := o_27 (bg_dX6_bears_25 17 27 rfl)
theorem dX6_bears_43 : decode cX6_bears 43 = .ok (.invokevirtual 191, 3) := o_182 (bg_dX6_bears_25 18 182 rfl) (bg_dX6_bears_25 19 0 rfl) (bg_dX6_bears_25 20 191 rfl)
theorem dX6_bears_46 : decode cX6_bears 46 = .ok (.ireturn, 1) := o_172 (bg_dX6_bears_25 21 172 rfl)
theorem bg_dX6_bridge_0 : bysAt cX6_bridge 0 [42, 27, 182, 0, 136, 153, 0, 45, 28, 3, 8, 184, 0, 66, 153, 0, 36, 29, 3, 16, 60, 184, 0, 66, 153, 0, 26] := bysAt_of (by decide +kernel)
theorem dX6_bridge_0 : decode cX6_bridge 0 = .ok (.aload_n 0, 1) := o_42 (bg_dX6_bridge_0 0 42 rfl)
theorem dX6_bridge_1 : decode cX6_bridge 1 = .ok (.iload_n 1, 1) := o_27 (bg_dX6_bridge_0 1 27 rfl)
theorem dX6_bridge_2 : decode cX6_bridge 2 = .ok (.invokevirtual 136, 3) := o_182 (bg_dX6_bridge_0 2 182 rfl) (bg_dX6_bridge_0 3 0 rfl) (bg_dX6_bridge_0 4 136 rfl)
theorem dX6_bridge_5 : decode cX6_bridge 5 = .ok (.ifCond .eq 45, 3) := o_153 (bg_dX6_bridge_0 5 153 rfl) (bg_dX6_bridge_0 6 0 rfl) (bg_dX6_bridge_0 7 45 rfl) (by decide +kernel)
theorem dX6_bridge_8 : decode cX6_bridge 8 = .ok (.iload_n 2, 1) := o_28 (bg_dX6_bridge_0 8 28 rfl)
theorem dX6_bridge_9 : decode cX6_bridge 9 = .ok (.iconst 0, 1) := o_3 (bg_dX6_bridge_0 9 3 rfl)
theorem dX6_bridge_10 : decode cX6_bridge 10 = .ok (.iconst 5, 1) := o_8 (bg_dX6_bridge_0 10 8 rfl)
theorem dX6_bridge_11 : decode cX6_bridge 11 = .ok (.invokestatic 66, 3) := o_184 (bg_dX6_bridge_0 11 184 rfl) (bg_dX6_bridge_0 12 0 rfl) (bg_dX6_bridge_0 13 66 rfl)
theorem dX6_bridge_14 : decode cX6_bridge 14 = .ok (.ifCond .eq 36, 3) := o_153 (bg_dX6_bridge_0 14 153 rfl) (bg_dX6_bridge_0 15 0 rfl) (bg_dX6_bridge_0 16 36 rfl) (by decide +kernel)
theorem dX6_bridge_17 : decode cX6_bridge 17 = .ok (.iload_n 3, 1) := o_29 (bg_dX6_bridge_0 17 29 rfl)
theorem dX6_bridge_18 : decode cX6_bridge 18 = .ok (.iconst 0, 1) := o_3 (bg_dX6_bridge_0 18 3 rfl)
theorem dX6_bridge_19 : decode cX6_bridge 19 = .ok (.bipush 60, 2) := o_16 (bg_dX6_bridge_0 19 16 rfl) (bg_dX6_bridge_0 20 60 rfl) (by decide +kernel)
theorem dX6_bridge_21 : decode cX6_bridge 21 = .ok (.invokestatic 66, 3) := o_184 (bg_dX6_bridge_0 21 184 rfl) (bg_dX6_bridge_0 22 0 rfl) (bg_dX6_bridge_0 23 66 rfl)
theorem dX6_bridge_24 : decode cX6_bridge 24 = .ok (.ifCond .eq 26, 3) := o_153 (bg_dX6_bridge_0 24 153 rfl) (bg_dX6_bridge_0 25 0 rfl) (bg_dX6_bridge_0 26 26 rfl) (by decide +kernel)
theorem bg_dX6_bridge_27 : bysAt cX6_bridge 27 [21, 4, 4, 16, 99, 184, 0, 66, 153, 0, 15, 21, 5, 4, 17, 3, 231, 184, 0, 66, 154, 0, 10, 42, 16, 254, 182, 0, 70, 172] := bysAt_of (by decide +kernel)
theorem dX6_bridge_27 : decode cX6_bridge 27 = .ok (.iload 4, 2) := o_21 (bg_dX6_bridge_27 0 21 rfl) (bg_dX6_bridge_27 1 4 rfl)
theorem dX6_bridge_29 : decode cX6_bridge 29 = .ok (.iconst 1, 1) := o_4 (bg_dX6_bridge_27 2 4 rfl)
theorem dX6_bridge_30 : decode cX6_bridge 30 = .ok (.bipush 99, 2) := o_16 (bg_dX6_bridge_27 3 16 rfl) (bg_dX6_bridge_27 4 99 rfl) (by decide +kernel)
theorem dX6_bridge_32 : decode cX6_bridge 32 = .ok (.invokestatic 66, 3) := o_184 (bg_dX6_bridge_27 5 184 rfl) (bg_dX6_bridge_27 6 0 rfl) (bg_dX6_bridge_27 7 66 rfl)
theorem dX6_bridge_35 : decode cX6_bridge 35 = .ok (.ifCond .eq 15, 3) := o_153 (bg_dX6_bridge_27 8 153 rfl) (bg_dX6_bridge_27 9 0 rfl) (bg_dX6_bridge_27 10 15 rfl) (by decide +kernel)
theorem dX6_bridge_38 : decode cX6_bridge 38 = .ok (.iload 5, 2) := o_21 (bg_dX6_bridge_27 11 21 rfl) (bg_dX6_bridge_27 12 5 rfl)
theorem dX6_bridge_40 : decode cX6_bridge 40 = .ok (.iconst 1, 1) := o_4 (bg_dX6_bridge_27 13 4 rfl)
theorem dX6_bridge_41 : decode cX6_bridge 41 = .ok (.sipush 999, 3) := o_17 (bg_dX6_bridge_27 14 17 rfl) (bg_dX6_bridge_27 15 3 rfl) (bg_dX6_bridge_27 16 231 rfl) (by decide +kernel)
theorem dX6_bridge_44 : decode cX6_bridge 44 = .ok (.invokestatic 66, 3) := o_184 (bg_dX6_bridge_27 17 184 rfl) (bg_dX6_bridge_27 18 0 rfl) (bg_dX6_bridge_27 19 66 rfl)
theorem dX6_bridge_47 : decode cX6_bridge 47 = .ok (.ifCond .ne 10, 3) := o_154 (bg_dX6_bridge_27 20 154 rfl) (bg_dX6_bridge_27 21 0 rfl) (bg_dX6_bridge_27 22 10 rfl) (by decide +kernel)
theorem dX6_bridge_50 : decode cX6_bridge 50 = .ok (.aload_n 0, 1) := o_42 (bg_dX6_bridge_27 23 42 rfl)
theorem dX6_bridge_51 : decode cX6_bridge 51 = .ok (.bipush (-2), 2) := o_16 (bg_dX6_bridge_27 24 16 rfl) (bg_dX6_bridge_27 25 254 rfl) (by decide +kernel)
theorem dX6_bridge_53 : decode cX6_bridge 53 = .ok (.invokevirtual 70, 3) := o_182 (bg_dX6_bridge_27 26 182 rfl) (bg_dX6_bridge_27 27 0 rfl) (bg_dX6_bridge_27 28 70 rfl)
theorem dX6_bridge_56 : decode cX6_bridge 56 = .ok (.ireturn, 1) := o_172 (bg_dX6_bridge_27 29 172 rfl)
theorem bg_dX6_bridge_57 : bysAt cX6_bridge 57 [42, 180, 0, 10, 4, 182, 0, 129, 154, 0, 10, 42, 16, 250, 182, 0, 70, 172, 42, 180, 0, 10, 27, 28, 29] := bysAt_of (by decide +kernel)
theorem dX6_bridge_57 : decode cX6_bridge 57 = .ok (.aload_n 0, 1) := o_42 (bg_dX6_bridge_57 0 42 rfl)
theorem dX6_bridge_58 : decode cX6_bridge 58 = .ok (.getfield 10, 3) := o_180 (bg_dX6_bridge_57 1 180 rfl) (bg_dX6_bridge_57 2 0 rfl) (bg_dX6_bridge_57 3 10 rfl)
theorem dX6_bridge_61 : decode cX6_bridge 61 = .ok (.iconst 1, 1) := o_4 (bg_dX6_bridge_57 4 4 rfl)
theorem dX6_bridge_62 : decode cX6_bridge 62 = .ok (.invokevirtual 129, 3) := o_182 (bg_dX6_bridge_57 5 182 rfl) (bg_dX6_bridge_57 6 0 rfl) (bg_dX6_bridge_57 7 129 rfl)
theorem dX6_bridge_65 : decode cX6_bridge 65 = .ok (.ifCond .ne 10, 3) := o_154 (bg_dX6_bridge_57 8 154 rfl) (bg_dX6_bridge_57 9 0 rfl) (bg_dX6_bridge_57 10 10 rfl) (by decide +kernel)
theorem dX6_bridge_68 : decode cX6_bridge 68 = .ok (.aload_n 0, 1) := o_42 (bg_dX6_bridge_57 11 42 rfl)
theorem dX6_bridge_69 : decode cX6_bridge 69 = .ok (.bipush (-6), 2) := o_16 (bg_dX6_bridge_57 12 16 rfl) (bg_dX6_bridge_57 13 250 rfl) (by decide +kernel)
theorem dX6_bridge_71 : decode cX6_bridge 71 = .ok (.invokevirtual 70, 3) := o_182 (bg_dX6_bridge_57 14 182 rfl) (bg_dX6_bridge_57 15 0 rfl) (bg_dX6_bridge_57 16 70 rfl)
theorem dX6_bridge_74 : decode cX6_bridge 74 = .ok (.ireturn, 1) := o_172 (bg_dX6_bridge_57 17 172 rfl)
theorem dX6_bridge_75 : decode cX6_bridge 75 = .ok (.aload_n 0, 1) := o_42 (bg_dX6_bridge_57 18 42 rfl)
theorem dX6_bridge_76 : decode cX6_bridge 76 = .ok (.getfield 10, 3) := o_180 (bg_dX6_bridge_57 19 180 rfl) (bg_dX6_bridge_57 20 0 rfl) (bg_dX6_bridge_57 21 10 rfl)
theorem dX6_bridge_79 : decode cX6_bridge 79 = .ok (.iload_n 1, 1) := o_27 (bg_dX6_bridge_57 22 27 rfl)
theorem dX6_bridge_80 : decode cX6_bridge 80 = .ok (.iload_n 2, 1) := o_28 (bg_dX6_bridge_57 23 28 rfl)
theorem dX6_bridge_81 : decode cX6_bridge 81 = .ok (.iload_n 3, 1) := o_29 (bg_dX6_bridge_57 24 29 rfl)
theorem bg_dX6_bridge_82 : bysAt cX6_bridge 82 [21, 4, 21, 5, 182, 0, 139, 172] := bysAt_of (by decide +kernel)
theorem dX6_bridge_82 : decode cX6_bridge 82 = .ok (.iload 4, 2) := o_21 (bg_dX6_bridge_82 0 21 rfl) (bg_dX6_bridge_82 1 4 rfl)
theorem dX6_bridge_84 : decode cX6_bridge 84 = .ok (.iload 5, 2) := o_21 (bg_dX6_bridge_82 2 21 rfl) (bg_dX6_bridge_82 3 5 rfl)
theorem dX6_bridge_86 : decode cX6_bridge 86 = .ok (.invokevirtual 139, 3) := o_182 (bg_dX6_bridge_82 4 182 rfl) (bg_dX6_bridge_82 5 0 rfl) (bg_dX6_bridge_82 6 139 rfl)
theorem dX6_bridge_89 : decode cX6_bridge 89 = .ok (.ireturn, 1) := o_172 (bg_dX6_bridge_82 7 172 rfl)
theorem bg_dX6_bridgeOf_0 : bysAt cX6_bridgeOf 0 [42, 27, 182, 0, 112, 153, 0, 13, 28, 3, 16, 9, 184, 0, 66, 154, 0, 10, 42, 16, 254, 182, 0, 70, 172, 42] := bysAt_of (by decide +kernel)
theorem dX6_bridgeOf_0 : decode cX6_bridgeOf 0 = .ok (.aload_n 0, 1) := o_42 (bg_dX6_bridgeOf_0 0 42 rfl)
theorem dX6_bridgeOf_1 : decode cX6_bridgeOf 1 = .ok (.iload_n 1, 1) := o_27 (bg_dX6_bridgeOf_0 1 27 rfl)
theorem dX6_bridgeOf_2 : decode cX6_bridgeOf 2 = .ok (.invokevirtual 112, 3) := o_182 (bg_dX6_bridgeOf_0 2 182 rfl) (bg_dX6_bridgeOf_0 3 0 rfl) (bg_dX6_bridgeOf_0 4 112 rfl)
theorem dX6_bridgeOf_5 : decode cX6_bridgeOf 5 = .ok (.ifCond .eq 13, 3) := o_153 (bg_dX6_bridgeOf_0 5 153 rfl) (bg_dX6_bridgeOf_0 6 0 rfl) (bg_dX6_bridgeOf_0 7 13 rfl) (by decide +kernel)
theorem dX6_bridgeOf_8 : decode cX6_bridgeOf 8 = .ok (.iload_n 2, 1) := o_28 (bg_dX6_bridgeOf_0 8 28 rfl)
theorem dX6_bridgeOf_9 : decode cX6_bridgeOf 9 = .ok (.iconst 0, 1) := o_3 (bg_dX6_bridgeOf_0 9 3 rfl)
theorem dX6_bridgeOf_10 : decode cX6_bridgeOf 10 = .ok (.bipush 9, 2) := o_16 (bg_dX6_bridgeOf_0 10 16 rfl) (bg_dX6_bridgeOf_0 11 9 rfl) (by decide +kernel)
theorem dX6_bridgeOf_12 : decode cX6_bridgeOf 12 = .ok (.invokestatic 66, 3) := o_184 (bg_dX6_bridgeOf_0 12 184 rfl) (bg_dX6_bridgeOf_0 13 0 rfl) (bg_dX6_bridgeOf_0 14 66 rfl)
theorem dX6_bridgeOf_15 : decode cX6_bridgeOf 15 = .ok (.ifCond .ne 10, 3) := o_154 (bg_dX6_bridgeOf_0 15 154 rfl) (bg_dX6_bridgeOf_0 16 0 rfl) (bg_dX6_bridgeOf_0 17 10 rfl) (by decide +kernel)
theorem dX6_bridgeOf_18 : decode cX6_bridgeOf 18 = .ok (.aload_n 0, 1) := o_42 (bg_dX6_bridgeOf_0 18 42 rfl)
theorem dX6_bridgeOf_19 : decode cX6_bridgeOf 19 = .ok (.bipush (-2), 2) := o_16 (bg_dX6_bridgeOf_0 19 16 rfl) (bg_dX6_bridgeOf_0 20 254 rfl) (by decide +kernel)
theorem dX6_bridgeOf_21 : decode cX6_bridgeOf 21 = .ok (.invokevirtual 70, 3) := o_182 (bg_dX6_bridgeOf_0 21 182 rfl) (bg_dX6_bridgeOf_0 22 0 rfl) (bg_dX6_bridgeOf_0 23 70 rfl)
theorem dX6_bridgeOf_24 : decode cX6_bridgeOf 24 = .ok (.ireturn, 1) := o_172 (bg_dX6_bridgeOf_0 24 172 rfl)
theorem dX6_bridgeOf_25 : decode cX6_bridgeOf 25 = .ok (.aload_n 0, 1) := o_42 (bg_dX6_bridgeOf_0 25 42 rfl)
theorem bg_dX6_bridgeOf_26 : bysAt cX6_bridgeOf 26 [180, 0, 10, 27, 28, 182, 0, 159, 172] := bysAt_of (by decide +kernel)
theorem dX6_bridgeOf_26 : decode cX6_bridgeOf 26 = .ok (.getfield 10, 3) := o_180 (bg_dX6_bridgeOf_26 0 180 rfl) (bg_dX6_bridgeOf_26 1 0 rfl) (bg_dX6_bridgeOf_26 2 10 rfl)
theorem dX6_bridgeOf_29 : decode cX6_bridgeOf 29 = .ok (.iload_n 1, 1) := o_27 (bg_dX6_bridgeOf_26 3 27 rfl)
theorem dX6_bridgeOf_30 : decode cX6_bridgeOf 30 = .ok (.iload_n 2, 1) := o_28 (bg_dX6_bridgeOf_26 4 28 rfl)
theorem dX6_bridgeOf_31 : decode cX6_bridgeOf 31 = .ok (.invokevirtual 159, 3) := o_182 (bg_dX6_bridgeOf_26 5 182 rfl) (bg_dX6_bridgeOf_26 6 0 rfl) (bg_dX6_bridgeOf_26 7 159 rfl)
theorem dX6_bridgeOf_34 : decode cX6_bridgeOf 34 = .ok (.ireturn, 1) := o_172 (bg_dX6_bridgeOf_26 8 172 rfl)
theorem bg_dX6_copy_0 : bysAt cX6_copy 0 [27, 184, 0, 62, 153, 0, 10, 28, 184, 0, 62, 154, 0, 10, 42, 16, 254, 182, 0, 70, 172, 42, 180, 0, 35, 27, 182, 0, 88] := bysAt_of (by decide +kernel)
theorem dX6_copy_0 : decode cX6_copy 0 = .ok (.iload_n 1, 1) := o_27 (bg_dX6_copy_0 0 27 rfl)
theorem dX6_copy_1 : decode cX6_copy 1 = .ok (.invokestatic 62, 3) := o_184 (bg_dX6_copy_0 1 184 rfl) (bg_dX6_copy_0 2 0 rfl) (bg_dX6_copy_0 3 62 rfl)
theorem dX6_copy_4 : decode cX6_copy 4 = .ok (.ifCond .eq 10, 3) := o_153 (bg_dX6_copy_0 4 153 rfl) (bg_dX6_copy_0 5 0 rfl) (bg_dX6_copy_0 6 10 rfl) (by decide +kernel)
theorem dX6_copy_7 : decode cX6_copy 7 = .ok (.iload_n 2, 1) := o_28 (bg_dX6_copy_0 7 28 rfl)
theorem dX6_copy_8 : decode cX6_copy 8 = .ok (.invokestatic 62, 3) := o_184 (bg_dX6_copy_0 8 184 rfl) (bg_dX6_copy_0 9 0 rfl) (bg_dX6_copy_0 10 62 rfl)
theorem dX6_copy_11 : decode cX6_copy 11 = .ok (.ifCond .ne 10, 3) := o_154 (bg_dX6_copy_0 11 154 rfl) (bg_dX6_copy_0 12 0 rfl) (bg_dX6_copy_0 13 10 rfl) (by decide +kernel)
theorem dX6_copy_14 : decode cX6_copy 14 = .ok (.aload_n 0, 1) := o_42 (bg_dX6_copy_0 14 42 rfl)
theorem dX6_copy_15 : decode cX6_copy 15 = .ok (.bipush (-2), 2) := o_16 (bg_dX6_copy_0 15 16 rfl) (bg_dX6_copy_0 16 254 rfl) (by decide +kernel)
theorem dX6_copy_17 : decode cX6_copy 17 = .ok (.invokevirtual 70, 3) := o_182 (bg_dX6_copy_0 17 182 rfl) (bg_dX6_copy_0 18 0 rfl) (bg_dX6_copy_0 19 70 rfl)
theorem dX6_copy_20 : decode cX6_copy 20 = .ok (.ireturn, 1) := o_172 (bg_dX6_copy_0 20 172 rfl)
theorem dX6_copy_21 : decode cX6_copy 21 = .ok (.aload_n 0, 1) := o_42 (bg_dX6_copy_0 21 42 rfl)
theorem dX6_copy_22 : decode cX6_copy 22 = .ok (.getfield 35, 3) := o_180 (bg_dX6_copy_0 22 180 rfl) (bg_dX6_copy_0 23 0 rfl) (bg_dX6_copy_0 24 35 rfl)
theorem dX6_copy_25 : decode cX6_copy 25 = .ok (.iload_n 1, 1) := o_27 (bg_dX6_copy_0 25 27 rfl)
theorem dX6_copy_26 : decode cX6_copy 26 = .ok (.invokevirtual 88, 3) := o_182 (bg_dX6_copy_0 26 182 rfl) (bg_dX6_copy_0 27 0 rfl) (bg_dX6_copy_0 28 88 rfl)
theorem bg_dX6_copy_29 : bysAt cX6_copy 29 [154, 0, 26, 42, 180, 0, 35, 28, 182, 0, 88, 154, 0, 15, 42, 180, 0, 35, 27, 28, 182, 0, 91, 153, 0, 10, 42, 16, 253] := bysAt_of (by decide +kernel)
theorem dX6_copy_29 : decode cX6_copy 29 = .ok (.ifCond .ne 26, 3) := o_154 (bg_dX6_copy_29 0 154 rfl) (bg_dX6_copy_29 1 0 rfl) (bg_dX6_copy_29 2 26 rfl) (by decide +kernel)
theorem dX6_copy_32 : decode cX6_copy 32 = .ok (.aload_n 0, 1) := o_42 (bg_dX6_copy_29 3 42 rfl)
theorem dX6_copy_33 : decode cX6_copy 33 = .ok (.getfield 35, 3) := o_180 (bg_dX6_copy_29 4 180 rfl) (bg_dX6_copy_29 5 0 rfl) (bg_dX6_copy_29 6 35 rfl)
theorem dX6_copy_36 : decode cX6_copy 36 = .ok (.iload_n 2, 1) := o_28 (bg_dX6_copy_29 7 28 rfl)
theorem dX6_copy_37 : decode cX6_copy 37 = .ok (.invokevirtual 88, 3) := o_182 (bg_dX6_copy_29 8 182 rfl) (bg_dX6_copy_29 9 0 rfl) (bg_dX6_copy_29 10 88 rfl)
theorem dX6_copy_40 : decode cX6_copy 40 = .ok (.ifCond .ne 15, 3) := o_154 (bg_dX6_copy_29 11 154 rfl) (bg_dX6_copy_29 12 0 rfl) (bg_dX6_copy_29 13 15 rfl) (by decide +kernel)
theorem dX6_copy_43 : decode cX6_copy 43 = .ok (.aload_n 0, 1) := o_42 (bg_dX6_copy_29 14 42 rfl)
theorem dX6_copy_44 : decode cX6_copy 44 = .ok (.getfield 35, 3) := o_180 (bg_dX6_copy_29 15 180 rfl) (bg_dX6_copy_29 16 0 rfl) (bg_dX6_copy_29 17 35 rfl)
theorem dX6_copy_47 : decode cX6_copy 47 = .ok (.iload_n 1, 1) := o_27 (bg_dX6_copy_29 18 27 rfl)
theorem dX6_copy_48 : decode cX6_copy 48 = .ok (.iload_n 2, 1) := o_28 (bg_dX6_copy_29 19 28 rfl)
theorem dX6_copy_49 : decode cX6_copy 49 = .ok (.invokevirtual 91, 3) := o_182 (bg_dX6_copy_29 20 182 rfl) (bg_dX6_copy_29 21 0 rfl) (bg_dX6_copy_29 22 91 rfl)
theorem dX6_copy_52 : decode cX6_copy 52 = .ok (.ifCond .eq 10, 3) := o_153 (bg_dX6_copy_29 23 153 rfl) (bg_dX6_copy_29 24 0 rfl) (bg_dX6_copy_29 25 10 rfl) (by decide +kernel)
theorem dX6_copy_55 : decode cX6_copy 55 = .ok (.aload_n 0, 1) := o_42 (bg_dX6_copy_29 26 42 rfl)
theorem dX6_copy_56 : decode cX6_copy 56 = .ok (.bipush (-3), 2) := o_16 (bg_dX6_copy_29 27 16 rfl) (bg_dX6_copy_29 28 253 rfl) (by decide +kernel)
theorem bg_dX6_copy_58 : bysAt cX6_copy 58 [182, 0, 70, 172, 42, 180, 0, 35, 27, 182, 0, 95, 154, 0, 14, 42, 180, 0, 35, 28, 182, 0, 95, 153, 0, 10, 42, 16, 252] := bysAt_of (by decide +kernel)
theorem dX6_copy_58 : decode cX6_copy 58 = .ok (.invokevirtual 70, 3) := o_182 (bg_dX6_copy_58 0 182 rfl) (bg_dX6_copy_58 1 0 rfl) (bg_dX6_copy_58 2 70 rfl)
theorem dX6_copy_61 : decode cX6_copy 61 = .ok (.ireturn, 1) := o_172 (bg_dX6_copy_58 3 172 rfl)
theorem dX6_copy_62 : decode cX6_copy 62 = .ok (.aload_n 0, 1) := o_42 (bg_dX6_copy_58 4 42 rfl)
theorem dX6_copy_63 : decode cX6_copy 63 = .ok (.getfield 35, 3) := o_180 (bg_dX6_copy_58 5 180 rfl) (bg_dX6_copy_58 6 0 rfl) (bg_dX6_copy_58 7 35 rfl)
theorem dX6_copy_66 : decode cX6_copy 66 = .ok (.iload_n 1, 1) := o_27 (bg_dX6_copy_58 8 27 rfl)
theorem dX6_copy_67 : decode cX6_copy 67 = .ok (.invokevirtual 95, 3) := o_182 (bg_dX6_copy_58 9 182 rfl) (bg_dX6_copy_58 10 0 rfl) (bg_dX6_copy_58 11 95 rfl)
theorem dX6_copy_70 : decode cX6_copy 70 = .ok (.ifCond .ne 14, 3) := o_154 (bg_dX6_copy_58 12 154 rfl) (bg_dX6_copy_58 13 0 rfl) (bg_dX6_copy_58 14 14 rfl) (by decide +kernel)
theorem dX6_copy_73 : decode cX6_copy 73 = .ok (.aload_n 0, 1) := o_42 (bg_dX6_copy_58 15 42 rfl)
theorem dX6_copy_74 : decode cX6_copy 74 = .ok (.getfield 35, 3) := o_180 (bg_dX6_copy_58 16 180 rfl) (bg_dX6_copy_58 17 0 rfl) (bg_dX6_copy_58 18 35 rfl)
theorem dX6_copy_77 : decode cX6_copy 77 = .ok (.iload_n 2, 1) := o_28 (bg_dX6_copy_58 19 28 rfl)
theorem dX6_copy_78 : decode cX6_copy 78 = .ok (.invokevirtual 95, 3) := o_182 (bg_dX6_copy_58 20 182 rfl) (bg_dX6_copy_58 21 0 rfl) (bg_dX6_copy_58 22 95 rfl)
theorem dX6_copy_81 : decode cX6_copy 81 = .ok (.ifCond .eq 10, 3) := o_153 (bg_dX6_copy_58 23 153 rfl) (bg_dX6_copy_58 24 0 rfl) (bg_dX6_copy_58 25 10 rfl) (by decide +kernel)
theorem dX6_copy_84 : decode cX6_copy 84 = .ok (.aload_n 0, 1) := o_42 (bg_dX6_copy_58 26 42 rfl)
theorem dX6_copy_85 : decode cX6_copy 85 = .ok (.bipush (-4), 2) := o_16 (bg_dX6_copy_58 27 16 rfl) (bg_dX6_copy_58 28 252 rfl) (by decide +kernel)
theorem bg_dX6_copy_87 : bysAt cX6_copy 87 [182, 0, 70, 172, 21, 5, 3, 16, 40, 184, 0, 66, 153, 0, 44, 29, 3, 42, 180, 0, 35, 180, 0, 81, 27, 46] := bysAt_of (by decide +kernel)
theorem dX6_copy_87 : decode cX6_copy 87 = .ok (.invokevirtual 70, 3) := o_182 (bg_dX6_copy_87 0 182 rfl) (bg_dX6_copy_87 1 0 rfl) (bg_dX6_copy_87 2 70 rfl)
theorem dX6_copy_90 : decode cX6_copy 90 = .ok (.ireturn, 1) := o_172 (bg_dX6_copy_87 3 172 rfl)
theorem dX6_copy_91 : decode cX6_copy 91 = .ok (.iload 5, 2) := o_21 (bg_dX6_copy_87 4 21 rfl) (bg_dX6_copy_87 5 5 rfl)
theorem dX6_copy_93 : decode cX6_copy 93 = .ok (.iconst 0, 1) := o_3 (bg_dX6_copy_87 6 3 rfl)
theorem dX6_copy_94 : decode cX6_copy 94 = .ok (.bipush 40, 2) := o_16 (bg_dX6_copy_87 7 16 rfl) (bg_dX6_copy_87 8 40 rfl) (by decide +kernel)
theorem dX6_copy_96 : decode cX6_copy 96 = .ok (.invokestatic 66, 3) := o_184 (bg_dX6_copy_87 9 184 rfl) (bg_dX6_copy_87 10 0 rfl) (bg_dX6_copy_87 11 66 rfl)
theorem dX6_copy_99 : decode cX6_copy 99 = .ok (.ifCond .eq 44, 3) := o_153 (bg_dX6_copy_87 12 153 rfl) (bg_dX6_copy_87 13 0 rfl) (bg_dX6_copy_87 14 44 rfl) (by decide +kernel)
theorem dX6_copy_102 : decode cX6_copy 102 = .ok (.iload_n 3, 1) := o_29 (bg_dX6_copy_87 15 29 rfl)
theorem dX6_copy_103 : decode cX6_copy 103 = .ok (.iconst 0, 1) := o_3 (bg_dX6_copy_87 16 3 rfl)
theorem dX6_copy_104 : decode cX6_copy 104 = .ok (.aload_n 0, 1) := o_42 (bg_dX6_copy_87 17 42 rfl)
theorem dX6_copy_105 : decode cX6_copy 105 = .ok (.getfield 35, 3) := o_180 (bg_dX6_copy_87 18 180 rfl) (bg_dX6_copy_87 19 0 rfl) (bg_dX6_copy_87 20 35 rfl)
theorem dX6_copy_108 : decode cX6_copy 108 = .ok (.getfield 81, 3) := o_180 (bg_dX6_copy_87 21 180 rfl) (bg_dX6_copy_87 22 0 rfl) (bg_dX6_copy_87 23 81 rfl)
theorem dX6_copy_111 : decode cX6_copy 111 = .ok (.iload_n 1, 1) := o_27 (bg_dX6_copy_87 24 27 rfl)
theorem dX6_copy_112 : decode cX6_copy 112 = .ok (.iaload, 1) := o_46 (bg_dX6_copy_87 25 46 rfl)
theorem bg_dX6_copy_113 : bysAt cX6_copy 113 [21, 5, 100, 184, 0, 66, 153, 0, 24, 21, 4, 3, 42, 180, 0, 35, 180, 0, 81, 28, 46, 21, 5, 100, 184, 0, 66] := bysAt_of (by decide +kernel)
theorem dX6_copy_113 : decode cX6_copy 113 = .ok (.iload 5, 2) := o_21 (bg_dX6_copy_113 0 21 rfl) (bg_dX6_copy_113 1 5 rfl)
theorem dX6_copy_115 : decode cX6_copy 115 = .ok (.isub, 1) := o_100 (bg_dX6_copy_113 2 100 rfl)
theorem dX6_copy_116 : decode cX6_copy 116 = .ok (.invokestatic 66, 3) := o_184 (bg_dX6_copy_113 3 184 rfl) (bg_dX6_copy_113 4 0 rfl) (bg_dX6_copy_113 5 66 rfl)
theorem dX6_copy_119 : decode cX6_copy 119 = .ok (.ifCond .eq 24, 3) := o_153 (bg_dX6_copy_113 6 153 rfl) (bg_dX6_copy_113 7 0 rfl) (bg_dX6_copy_113 8 24 rfl) (by decide +kernel)
theorem dX6_copy_122 : decode cX6_copy 122 = .ok (.iload 4, 2) := o_21 (bg_dX6_copy_113 9 21 rfl) (bg_dX6_copy_113 10 4 rfl)
theorem dX6_copy_124 : decode cX6_copy 124 = .ok (.iconst 0, 1) := o_3 (bg_dX6_copy_113 11 3 rfl)
theorem dX6_copy_125 : decode cX6_copy 125 = .ok (.aload_n 0, 1) := o_42 (bg_dX6_copy_113 12 42 rfl)
theorem dX6_copy_126 : decode cX6_copy 126 = .ok (.getfield 35, 3) := o_180 (bg_dX6_copy_113 13 180 rfl) (bg_dX6_copy_113 14 0 rfl) (bg_dX6_copy_113 15 35 rfl)
theorem dX6_copy_129 : decode cX6_copy 129 = .ok (.getfield 81, 3) := o_180 (bg_dX6_copy_113 16 180 rfl) (bg_dX6_copy_113 17 0 rfl) (bg_dX6_copy_113 18 81 rfl)
theorem dX6_copy_132 : decode cX6_copy 132 = .ok (.iload_n 2, 1) := o_28 (bg_dX6_copy_113 19 28 rfl)
theorem dX6_copy_133 : decode cX6_copy 133 = .ok (.iaload, 1) := o_46 (bg_dX6_copy_113 20 46 rfl)
theorem dX6_copy_134 : decode cX6_copy 134 = .ok (.iload 5, 2) := o_21 (bg_dX6_copy_113 21 21 rfl) (bg_dX6_copy_113 22 5 rfl)
theorem dX6_copy_136 : decode cX6_copy 136 = .ok (.isub, 1) := o_100 (bg_dX6_copy_113 23 100 rfl)
theorem dX6_copy_137 : decode cX6_copy 137 = .ok (.invokestatic 66, 3) := o_184 (bg_dX6_copy_113 24 184 rfl) (bg_dX6_copy_113 25 0 rfl) (bg_dX6_copy_113 26 66 rfl)
theorem bg_dX6_copy_140 : bysAt cX6_copy 140 [154, 0, 10, 42, 16, 254, 182, 0, 70, 172, 42, 180, 0, 35, 27, 28, 29, 21, 4, 21, 5, 182, 0, 98, 21, 5] := bysAt_of (by decide +kernel)
theorem dX6_copy_140 : decode cX6_copy 140 = .ok (.ifCond .ne 10, 3) := o_154 (bg_dX6_copy_140 0 154 rfl) (bg_dX6_copy_140 1 0 rfl) (bg_dX6_copy_140 2 10 rfl) (by decide +kernel)
theorem dX6_copy_143 : decode cX6_copy 143 = .ok (.aload_n 0, 1) := o_42 (bg_dX6_copy_140 3 42 rfl)
theorem dX6_copy_144 : decode cX6_copy 144 = .ok (.bipush (-2), 2) := o_16 (bg_dX6_copy_140 4 16 rfl) (bg_dX6_copy_140 5 254 rfl) (by decide +kernel)
theorem dX6_copy_146 : decode cX6_copy 146 = .ok (.invokevirtual 70, 3) := o_182 (bg_dX6_copy_140 6 182 rfl) (bg_dX6_copy_140 7 0 rfl) (bg_dX6_copy_140 8 70 rfl)
theorem dX6_copy_149 : decode cX6_copy 149 = .ok (.ireturn, 1) := o_172 (bg_dX6_copy_140 9 172 rfl)
theorem dX6_copy_150 : decode cX6_copy 150 = .ok (.aload_n 0, 1) := o_42 (bg_dX6_copy_140 10 42 rfl)
theorem dX6_copy_151 : decode cX6_copy 151 = .ok (.getfield 35, 3) := o_180 (bg_dX6_copy_140 11 180 rfl) (bg_dX6_copy_140 12 0 rfl) (bg_dX6_copy_140 13 35 rfl)
theorem dX6_copy_154 : decode cX6_copy 154 = .ok (.iload_n 1, 1) := o_27 (bg_dX6_copy_140 14 27 rfl)
theorem dX6_copy_155 : decode cX6_copy 155 = .ok (.iload_n 2, 1) := o_28 (bg_dX6_copy_140 15 28 rfl)
theorem dX6_copy_156 : decode cX6_copy 156 = .ok (.iload_n 3, 1) := o_29 (bg_dX6_copy_140 16 29 rfl)
theorem dX6_copy_157 : decode cX6_copy 157 = .ok (.iload 4, 2) := o_21 (bg_dX6_copy_140 17 21 rfl) (bg_dX6_copy_140 18 4 rfl)
theorem dX6_copy_159 : decode cX6_copy 159 = .ok (.iload 5, 2) := o_21 (bg_dX6_copy_140 19 21 rfl) (bg_dX6_copy_140 20 5 rfl)
theorem dX6_copy_161 : decode cX6_copy 161 = .ok (.invokevirtual 98, 3) := o_182 (bg_dX6_copy_140 21 182 rfl) (bg_dX6_copy_140 22 0 rfl) (bg_dX6_copy_140 23 98 rfl)
theorem dX6_copy_164 : decode cX6_copy 164 = .ok (.iload 5, 2) := o_21 (bg_dX6_copy_140 24 21 rfl) (bg_dX6_copy_140 25 5 rfl)
theorem bg_dX6_copy_166 : bysAt cX6_copy 166 [172] := bysAt_of (by decide +kernel)
theorem dX6_copy_166 : decode cX6_copy 166 = .ok (.ireturn, 1) := o_172 (bg_dX6_copy_166 0 172 rfl)
theorem bg_dX6_element_0 : bysAt cX6_element 0 [27, 184, 0, 62, 153, 0, 14, 42, 180, 0, 35, 27, 182, 0, 102, 154, 0, 5, 9, 173, 42, 180, 0, 35, 27, 28] := bysAt_of (by decide +kernel)
theorem dX6_element_0 : decode cX6_element 0 = .ok (.iload_n 1, 1) := o_27 (bg_dX6_element_0 0 27 rfl)
theorem dX6_element_1 : decode cX6_element 1 = .ok (.invokestatic 62, 3) := o_184 (bg_dX6_element_0 1 184 rfl) (bg_dX6_element_0 2 0 rfl) (bg_dX6_element_0 3 62 rfl)
theorem dX6_element_4 : decode cX6_element 4 = .ok (.ifCond .eq 14, 3) := o_153 (bg_dX6_element_0 4 153 rfl) (bg_dX6_element_0 5 0 rfl) (bg_dX6_element_0 6 14 rfl) (by decide +kernel)
theorem dX6_element_7 : decode cX6_element 7 = .ok (.aload_n 0, 1) := o_42 (bg_dX6_element_0 7 42 rfl)
theorem dX6_element_8 : decode cX6_element 8 = .ok (.getfield 35, 3) := o_180 (bg_dX6_element_0 8 180 rfl) (bg_dX6_element_0 9 0 rfl) (bg_dX6_element_0 10 35 rfl)
theorem dX6_element_11 : decode cX6_element 11 = .ok (.iload_n 1, 1) := o_27 (bg_dX6_element_0 11 27 rfl)
theorem dX6_element_12 : decode cX6_element 12 = .ok (.invokevirtual 102, 3) := o_182 (bg_dX6_element_0 12 182 rfl) (bg_dX6_element_0 13 0 rfl) (bg_dX6_element_0 14 102 rfl)
theorem dX6_element_15 : decode cX6_element 15 = .ok (.ifCond .ne 5, 3) := o_154 (bg_dX6_element_0 15 154 rfl) (bg_dX6_element_0 16 0 rfl) (bg_dX6_element_0 17 5 rfl) (by decide +kernel)
theorem dX6_element_18 : decode cX6_element 18 = .ok (.lconst 0, 1) := o_9 (bg_dX6_element_0 18 9 rfl)
theorem dX6_element_19 : decode cX6_element 19 = .ok (.lreturn, 1) := o_173 (bg_dX6_element_0 19 173 rfl)
theorem dX6_element_20 : decode cX6_element 20 = .ok (.aload_n 0, 1) := o_42 (bg_dX6_element_0 20 42 rfl)
theorem dX6_element_21 : decode cX6_element 21 = .ok (.getfield 35, 3) := o_180 (bg_dX6_element_0 21 180 rfl) (bg_dX6_element_0 22 0 rfl) (bg_dX6_element_0 23 35 rfl)
theorem dX6_element_24 : decode cX6_element 24 = .ok (.iload_n 1, 1) := o_27 (bg_dX6_element_0 24 27 rfl)
theorem dX6_element_25 : decode cX6_element 25 = .ok (.iload_n 2, 1) := o_28 (bg_dX6_element_0 25 28 rfl)
theorem bg_dX6_element_26 : bysAt cX6_element 26 [182, 0, 105, 173] := bysAt_of (by decide +kernel)
theorem dX6_element_26 : decode cX6_element 26 = .ok (.invokevirtual 105, 3) := o_182 (bg_dX6_element_26 0 182 rfl) (bg_dX6_element_26 1 0 rfl) (bg_dX6_element_26 2 105 rfl)
theorem dX6_element_29 : decode cX6_element 29 = .ok (.lreturn, 1) := o_173 (bg_dX6_element_26 3 173 rfl)
theorem bg_dX6_goes_0 : bysAt cX6_goes 0 [42, 27, 28, 182, 0, 200, 153, 0, 21, 42, 29, 182, 0, 136, 153, 0, 13, 21, 4, 3, 7, 184, 0, 66, 154, 0, 10] := bysAt_of (by decide +kernel)
theorem dX6_goes_0 : decode cX6_goes 0 = .ok (.aload_n 0, 1) := o_42 (bg_dX6_goes_0 0 42 rfl)
theorem dX6_goes_1 : decode cX6_goes 1 = .ok (.iload_n 1, 1) := o_27 (bg_dX6_goes_0 1 27 rfl)
theorem dX6_goes_2 : decode cX6_goes 2 = .ok (.iload_n 2, 1) := o_28 (bg_dX6_goes_0 2 28 rfl)
theorem dX6_goes_3 : decode cX6_goes 3 = .ok (.invokevirtual 200, 3) := o_182 (bg_dX6_goes_0 3 182 rfl) (bg_dX6_goes_0 4 0 rfl) (bg_dX6_goes_0 5 200 rfl)
theorem dX6_goes_6 : decode cX6_goes 6 = .ok (.ifCond .eq 21, 3) := o_153 (bg_dX6_goes_0 6 153 rfl) (bg_dX6_goes_0 7 0 rfl) (bg_dX6_goes_0 8 21 rfl) (by decide +kernel)
theorem dX6_goes_9 : decode cX6_goes 9 = .ok (.aload_n 0, 1) := o_42 (bg_dX6_goes_0 9 42 rfl)
theorem dX6_goes_10 : decode cX6_goes 10 = .ok (.iload_n 3, 1) := o_29 (bg_dX6_goes_0 10 29 rfl)
theorem dX6_goes_11 : decode cX6_goes 11 = .ok (.invokevirtual 136, 3) := o_182 (bg_dX6_goes_0 11 182 rfl) (bg_dX6_goes_0 12 0 rfl) (bg_dX6_goes_0 13 136 rfl)
theorem dX6_goes_14 : decode cX6_goes 14 = .ok (.ifCond .eq 13, 3) := o_153 (bg_dX6_goes_0 14 153 rfl) (bg_dX6_goes_0 15 0 rfl) (bg_dX6_goes_0 16 13 rfl) (by decide +kernel)
theorem dX6_goes_17 : decode cX6_goes 17 = .ok (.iload 4, 2) := o_21 (bg_dX6_goes_0 17 21 rfl) (bg_dX6_goes_0 18 4 rfl)
theorem dX6_goes_19 : decode cX6_goes 19 = .ok (.iconst 0, 1) := o_3 (bg_dX6_goes_0 19 3 rfl)
theorem dX6_goes_20 : decode cX6_goes 20 = .ok (.iconst 4, 1) := o_7 (bg_dX6_goes_0 20 7 rfl)
theorem dX6_goes_21 : decode cX6_goes 21 = .ok (.invokestatic 66, 3) := o_184 (bg_dX6_goes_0 21 184 rfl) (bg_dX6_goes_0 22 0 rfl) (bg_dX6_goes_0 23 66 rfl)
theorem dX6_goes_24 : decode cX6_goes 24 = .ok (.ifCond .ne 10, 3) := o_154 (bg_dX6_goes_0 24 154 rfl) (bg_dX6_goes_0 25 0 rfl) (bg_dX6_goes_0 26 10 rfl) (by decide +kernel)
theorem bg_dX6_goes_27 : bysAt cX6_goes 27 [42, 16, 254, 182, 0, 70, 172, 42, 180, 0, 28, 27, 28, 182, 0, 223, 21, 4, 154, 0, 22, 42, 180, 0, 28, 180, 0, 226] := bysAt_of (by decide +kernel)
theorem dX6_goes_27 : decode cX6_goes 27 = .ok (.aload_n 0, 1) := o_42 (bg_dX6_goes_27 0 42 rfl)
theorem dX6_goes_28 : decode cX6_goes 28 = .ok (.bipush (-2), 2) := o_16 (bg_dX6_goes_27 1 16 rfl) (bg_dX6_goes_27 2 254 rfl) (by decide +kernel)
theorem dX6_goes_30 : decode cX6_goes 30 = .ok (.invokevirtual 70, 3) := o_182 (bg_dX6_goes_27 3 182 rfl) (bg_dX6_goes_27 4 0 rfl) (bg_dX6_goes_27 5 70 rfl)
theorem dX6_goes_33 : decode cX6_goes 33 = .ok (.ireturn, 1) := o_172 (bg_dX6_goes_27 6 172 rfl)
theorem dX6_goes_34 : decode cX6_goes 34 = .ok (.aload_n 0, 1) := o_42 (bg_dX6_goes_27 7 42 rfl)
theorem dX6_goes_35 : decode cX6_goes 35 = .ok (.getfield 28, 3) := o_180 (bg_dX6_goes_27 8 180 rfl) (bg_dX6_goes_27 9 0 rfl) (bg_dX6_goes_27 10 28 rfl)
theorem dX6_goes_38 : decode cX6_goes 38 = .ok (.iload_n 1, 1) := o_27 (bg_dX6_goes_27 11 27 rfl)
theorem dX6_goes_39 : decode cX6_goes 39 = .ok (.iload_n 2, 1) := o_28 (bg_dX6_goes_27 12 28 rfl)
theorem dX6_goes_40 : decode cX6_goes 40 = .ok (.invokevirtual 223, 3) := o_182 (bg_dX6_goes_27 13 182 rfl) (bg_dX6_goes_27 14 0 rfl) (bg_dX6_goes_27 15 223 rfl)
theorem dX6_goes_43 : decode cX6_goes 43 = .ok (.iload 4, 2) := o_21 (bg_dX6_goes_27 16 21 rfl) (bg_dX6_goes_27 17 4 rfl)
theorem dX6_goes_45 : decode cX6_goes 45 = .ok (.ifCond .ne 22, 3) := o_154 (bg_dX6_goes_27 18 154 rfl) (bg_dX6_goes_27 19 0 rfl) (bg_dX6_goes_27 20 22 rfl) (by decide +kernel)
theorem dX6_goes_48 : decode cX6_goes 48 = .ok (.aload_n 0, 1) := o_42 (bg_dX6_goes_27 21 42 rfl)
theorem dX6_goes_49 : decode cX6_goes 49 = .ok (.getfield 28, 3) := o_180 (bg_dX6_goes_27 22 180 rfl) (bg_dX6_goes_27 23 0 rfl) (bg_dX6_goes_27 24 28 rfl)
theorem dX6_goes_52 : decode cX6_goes 52 = .ok (.getfield 226, 3) := o_180 (bg_dX6_goes_27 25 180 rfl) (bg_dX6_goes_27 26 0 rfl) (bg_dX6_goes_27 27 226 rfl)
theorem bg_dX6_goes_55 : bysAt cX6_goes 55 [29, 46, 2, 160, 0, 7, 3, 167, 0, 4, 4, 172, 21, 4, 6, 160, 0, 12, 42, 180, 0, 28, 29] := bysAt_of (by decide +kernel)
theorem dX6_goes_55 : decode cX6_goes 55 = .ok (.iload_n 3, 1) := o_29 (bg_dX6_goes_55 0 29 rfl)
theorem dX6_goes_56 : decode cX6_goes 56 = .ok (.iaload, 1) := o_46 (bg_dX6_goes_55 1 46 rfl)
theorem dX6_goes_57 : decode cX6_goes 57 = .ok (.iconst (-1), 1) := o_2 (bg_dX6_goes_55 2 2 rfl)
theorem dX6_goes_58 : decode cX6_goes 58 = .ok (.if_icmp .ne 7, 3) := o_160 (bg_dX6_goes_55 3 160 rfl) (bg_dX6_goes_55 4 0 rfl) (bg_dX6_goes_55 5 7 rfl) (by decide +kernel)
theorem dX6_goes_61 : decode cX6_goes 61 = .ok (.iconst 0, 1) := o_3 (bg_dX6_goes_55 6 3 rfl)
theorem dX6_goes_62 : decode cX6_goes 62 = .ok (.goto 4, 3) := o_167 (bg_dX6_goes_55 7 167 rfl) (bg_dX6_goes_55 8 0 rfl) (bg_dX6_goes_55 9 4 rfl) (by decide +kernel)
theorem dX6_goes_65 : decode cX6_goes 65 = .ok (.iconst 1, 1) := o_4 (bg_dX6_goes_55 10 4 rfl)
theorem dX6_goes_66 : decode cX6_goes 66 = .ok (.ireturn, 1) := o_172 (bg_dX6_goes_55 11 172 rfl)
theorem dX6_goes_67 : decode cX6_goes 67 = .ok (.iload 4, 2) := o_21 (bg_dX6_goes_55 12 21 rfl) (bg_dX6_goes_55 13 4 rfl)
theorem dX6_goes_69 : decode cX6_goes 69 = .ok (.iconst 3, 1) := o_6 (bg_dX6_goes_55 14 6 rfl)
theorem dX6_goes_70 : decode cX6_goes 70 = .ok (.if_icmp .ne 12, 3) := o_160 (bg_dX6_goes_55 15 160 rfl) (bg_dX6_goes_55 16 0 rfl) (bg_dX6_goes_55 17 12 rfl) (by decide +kernel)
theorem dX6_goes_73 : decode cX6_goes 73 = .ok (.aload_n 0, 1) := o_42 (bg_dX6_goes_55 18 42 rfl)
theorem dX6_goes_74 : decode cX6_goes 74 = .ok (.getfield 28, 3) := o_180 (bg_dX6_goes_55 19 180 rfl) (bg_dX6_goes_55 20 0 rfl) (bg_dX6_goes_55 21 28 rfl)
theorem dX6_goes_77 : decode cX6_goes 77 = .ok (.iload_n 3, 1) := o_29 (bg_dX6_goes_55 22 29 rfl)
theorem bg_dX6_goes_78 : bysAt cX6_goes 78 [182, 0, 229, 172, 42, 180, 0, 28, 180, 0, 226, 29, 46, 2, 160, 0, 10, 42, 16, 251, 182, 0, 70, 172, 21, 4] := bysAt_of (by decide +kernel)
theorem dX6_goes_78 : decode cX6_goes 78 = .ok (.invokevirtual 229, 3) := o_182 (bg_dX6_goes_78 0 182 rfl) (bg_dX6_goes_78 1 0 rfl) (bg_dX6_goes_78 2 229 rfl)
theorem dX6_goes_81 : decode cX6_goes 81 = .ok (.ireturn, 1) := o_172 (bg_dX6_goes_78 3 172 rfl)
theorem dX6_goes_82 : decode cX6_goes 82 = .ok (.aload_n 0, 1) := o_42 (bg_dX6_goes_78 4 42 rfl)
theorem dX6_goes_83 : decode cX6_goes 83 = .ok (.getfield 28, 3) := o_180 (bg_dX6_goes_78 5 180 rfl) (bg_dX6_goes_78 6 0 rfl) (bg_dX6_goes_78 7 28 rfl)
theorem dX6_goes_86 : decode cX6_goes 86 = .ok (.getfield 226, 3) := o_180 (bg_dX6_goes_78 8 180 rfl) (bg_dX6_goes_78 9 0 rfl) (bg_dX6_goes_78 10 226 rfl)
theorem dX6_goes_89 : decode cX6_goes 89 = .ok (.iload_n 3, 1) := o_29 (bg_dX6_goes_78 11 29 rfl)
theorem dX6_goes_90 : decode cX6_goes 90 = .ok (.iaload, 1) := o_46 (bg_dX6_goes_78 12 46 rfl)
theorem dX6_goes_91 : decode cX6_goes 91 = .ok (.iconst (-1), 1) := o_2 (bg_dX6_goes_78 13 2 rfl)
theorem dX6_goes_92 : decode cX6_goes 92 = .ok (.if_icmp .ne 10, 3) := o_160 (bg_dX6_goes_78 14 160 rfl) (bg_dX6_goes_78 15 0 rfl) (bg_dX6_goes_78 16 10 rfl) (by decide +kernel)
theorem dX6_goes_95 : decode cX6_goes 95 = .ok (.aload_n 0, 1) := o_42 (bg_dX6_goes_78 17 42 rfl)
theorem dX6_goes_96 : decode cX6_goes 96 = .ok (.bipush (-5), 2) := o_16 (bg_dX6_goes_78 18 16 rfl) (bg_dX6_goes_78 19 251 rfl) (by decide +kernel)
theorem dX6_goes_98 : decode cX6_goes 98 = .ok (.invokevirtual 70, 3) := o_182 (bg_dX6_goes_78 20 182 rfl) (bg_dX6_goes_78 21 0 rfl) (bg_dX6_goes_78 22 70 rfl)
theorem dX6_goes_101 : decode cX6_goes 101 = .ok (.ireturn, 1) := o_172 (bg_dX6_goes_78 23 172 rfl)
theorem dX6_goes_102 : decode cX6_goes 102 = .ok (.iload 4, 2) := o_21 (bg_dX6_goes_78 24 21 rfl) (bg_dX6_goes_78 25 4 rfl)
theorem bg_dX6_goes_104 : bysAt cX6_goes 104 [4, 160, 0, 13, 42, 180, 0, 28, 29, 4, 182, 0, 232, 172, 21, 4, 5, 160, 0, 14, 42, 180, 0, 28, 29] := bysAt_of (by decide +kernel)
theorem dX6_goes_104 : decode cX6_goes 104 = .ok (.iconst 1, 1) := o_4 (bg_dX6_goes_104 0 4 rfl)
theorem dX6_goes_105 : decode cX6_goes 105 = .ok (.if_icmp .ne 13, 3) := o_160 (bg_dX6_goes_104 1 160 rfl) (bg_dX6_goes_104 2 0 rfl) (bg_dX6_goes_104 3 13 rfl) (by decide +kernel)
theorem dX6_goes_108 : decode cX6_goes 108 = .ok (.aload_n 0, 1) := o_42 (bg_dX6_goes_104 4 42 rfl)
theorem dX6_goes_109 : decode cX6_goes 109 = .ok (.getfield 28, 3) := o_180 (bg_dX6_goes_104 5 180 rfl) (bg_dX6_goes_104 6 0 rfl) (bg_dX6_goes_104 7 28 rfl)
theorem dX6_goes_112 : decode cX6_goes 112 = .ok (.iload_n 3, 1) := o_29 (bg_dX6_goes_104 8 29 rfl)
theorem dX6_goes_113 : decode cX6_goes 113 = .ok (.iconst 1, 1) := o_4 (bg_dX6_goes_104 9 4 rfl)
theorem dX6_goes_114 : decode cX6_goes 114 = .ok (.invokevirtual 232, 3) := o_182 (bg_dX6_goes_104 10 182 rfl) (bg_dX6_goes_104 11 0 rfl) (bg_dX6_goes_104 12 232 rfl)
theorem dX6_goes_117 : decode cX6_goes 117 = .ok (.ireturn, 1) := o_172 (bg_dX6_goes_104 13 172 rfl)
theorem dX6_goes_118 : decode cX6_goes 118 = .ok (.iload 4, 2) := o_21 (bg_dX6_goes_104 14 21 rfl) (bg_dX6_goes_104 15 4 rfl)
theorem dX6_goes_120 : decode cX6_goes 120 = .ok (.iconst 2, 1) := o_5 (bg_dX6_goes_104 16 5 rfl)
theorem dX6_goes_121 : decode cX6_goes 121 = .ok (.if_icmp .ne 14, 3) := o_160 (bg_dX6_goes_104 17 160 rfl) (bg_dX6_goes_104 18 0 rfl) (bg_dX6_goes_104 19 14 rfl) (by decide +kernel)
theorem dX6_goes_124 : decode cX6_goes 124 = .ok (.aload_n 0, 1) := o_42 (bg_dX6_goes_104 20 42 rfl)
theorem dX6_goes_125 : decode cX6_goes 125 = .ok (.getfield 28, 3) := o_180 (bg_dX6_goes_104 21 180 rfl) (bg_dX6_goes_104 22 0 rfl) (bg_dX6_goes_104 23 28 rfl)
theorem dX6_goes_128 : decode cX6_goes 128 = .ok (.iload_n 3, 1) := o_29 (bg_dX6_goes_104 24 29 rfl)
theorem bg_dX6_goes_129 : bysAt cX6_goes 129 [182, 0, 235, 167, 0, 12, 42, 180, 0, 28, 180, 0, 226, 29, 46, 172] := bysAt_of (by decide +kernel)
theorem dX6_goes_129 : decode cX6_goes 129 = .ok (.invokevirtual 235, 3) := o_182 (bg_dX6_goes_129 0 182 rfl) (bg_dX6_goes_129 1 0 rfl) (bg_dX6_goes_129 2 235 rfl)
theorem dX6_goes_132 : decode cX6_goes 132 = .ok (.goto 12, 3) := o_167 (bg_dX6_goes_129 3 167 rfl) (bg_dX6_goes_129 4 0 rfl) (bg_dX6_goes_129 5 12 rfl) (by decide +kernel)
theorem dX6_goes_135 : decode cX6_goes 135 = .ok (.aload_n 0, 1) := o_42 (bg_dX6_goes_129 6 42 rfl)
theorem dX6_goes_136 : decode cX6_goes 136 = .ok (.getfield 28, 3) := o_180 (bg_dX6_goes_129 7 180 rfl) (bg_dX6_goes_129 8 0 rfl) (bg_dX6_goes_129 9 28 rfl)
theorem dX6_goes_139 : decode cX6_goes 139 = .ok (.getfield 226, 3) := o_180 (bg_dX6_goes_129 10 180 rfl) (bg_dX6_goes_129 11 0 rfl) (bg_dX6_goes_129 12 226 rfl)
theorem dX6_goes_142 : decode cX6_goes 142 = .ok (.iload_n 3, 1) := o_29 (bg_dX6_goes_129 13 29 rfl)
theorem dX6_goes_143 : decode cX6_goes 143 = .ok (.iaload, 1) := o_46 (bg_dX6_goes_129 14 46 rfl)
theorem dX6_goes_144 : decode cX6_goes 144 = .ok (.ireturn, 1) := o_172 (bg_dX6_goes_129 15 172 rfl)
theorem bg_dX6_holds_0 : bysAt cX6_holds 0 [27, 184, 0, 62, 153, 0, 15, 42, 180, 0, 35, 180, 0, 109, 27, 46, 167, 0, 4, 2, 172] := bysAt_of (by decide +kernel)
theorem dX6_holds_0 : decode cX6_holds 0 = .ok (.iload_n 1, 1) := o_27 (bg_dX6_holds_0 0 27 rfl)
theorem dX6_holds_1 : decode cX6_holds 1 = .ok (.invokestatic 62, 3) := o_184 (bg_dX6_holds_0 1 184 rfl) (bg_dX6_holds_0 2 0 rfl) (bg_dX6_holds_0 3 62 rfl)
theorem dX6_holds_4 : decode cX6_holds 4 = .ok (.ifCond .eq 15, 3) := o_153 (bg_dX6_holds_0 4 153 rfl) (bg_dX6_holds_0 5 0 rfl) (bg_dX6_holds_0 6 15 rfl) (by decide +kernel)
theorem dX6_holds_7 : decode cX6_holds 7 = .ok (.aload_n 0, 1) := o_42 (bg_dX6_holds_0 7 42 rfl)
theorem dX6_holds_8 : decode cX6_holds 8 = .ok (.getfield 35, 3) := o_180 (bg_dX6_holds_0 8 180 rfl) (bg_dX6_holds_0 9 0 rfl) (bg_dX6_holds_0 10 35 rfl)
theorem dX6_holds_11 : decode cX6_holds 11 = .ok (.getfield 109, 3) := o_180 (bg_dX6_holds_0 11 180 rfl) (bg_dX6_holds_0 12 0 rfl) (bg_dX6_holds_0 13 109 rfl)
theorem dX6_holds_14 : decode cX6_holds 14 = .ok (.iload_n 1, 1) := o_27 (bg_dX6_holds_0 14 27 rfl)
theorem dX6_holds_15 : decode cX6_holds 15 = .ok (.iaload, 1) := o_46 (bg_dX6_holds_0 15 46 rfl)
theorem dX6_holds_16 : decode cX6_holds 16 = .ok (.goto 4, 3) := o_167 (bg_dX6_holds_0 16 167 rfl) (bg_dX6_holds_0 17 0 rfl) (bg_dX6_holds_0 18 4 rfl) (by decide +kernel)
theorem dX6_holds_19 : decode cX6_holds 19 = .ok (.iconst (-1), 1) := o_2 (bg_dX6_holds_0 19 2 rfl)
theorem dX6_holds_20 : decode cX6_holds 20 = .ok (.ireturn, 1) := o_172 (bg_dX6_holds_0 20 172 rfl)
theorem bg_dX6_length_0 : bysAt cX6_length 0 [42, 27, 182, 0, 194, 154, 0, 10, 42, 16, 254, 182, 0, 70, 172, 42, 180, 0, 10, 27, 182, 0, 197, 172] := bysAt_of (by decide +kernel)
theorem dX6_length_0 : decode cX6_length 0 = .ok (.aload_n 0, 1) := o_42 (bg_dX6_length_0 0 42 rfl)
theorem dX6_length_1 : decode cX6_length 1 = .ok (.iload_n 1, 1) := o_27 (bg_dX6_length_0 1 27 rfl)
theorem dX6_length_2 : decode cX6_length 2 = .ok (.invokevirtual 194, 3) := o_182 (bg_dX6_length_0 2 182 rfl) (bg_dX6_length_0 3 0 rfl) (bg_dX6_length_0 4 194 rfl)
theorem dX6_length_5 : decode cX6_length 5 = .ok (.ifCond .ne 10, 3) := o_154 (bg_dX6_length_0 5 154 rfl) (bg_dX6_length_0 6 0 rfl) (bg_dX6_length_0 7 10 rfl) (by decide +kernel)
theorem dX6_length_8 : decode cX6_length 8 = .ok (.aload_n 0, 1) := o_42 (bg_dX6_length_0 8 42 rfl)
theorem dX6_length_9 : decode cX6_length 9 = .ok (.bipush (-2), 2) := o_16 (bg_dX6_length_0 9 16 rfl) (bg_dX6_length_0 10 254 rfl) (by decide +kernel)
theorem dX6_length_11 : decode cX6_length 11 = .ok (.invokevirtual 70, 3) := o_182 (bg_dX6_length_0 11 182 rfl) (bg_dX6_length_0 12 0 rfl) (bg_dX6_length_0 13 70 rfl)
theorem dX6_length_14 : decode cX6_length 14 = .ok (.ireturn, 1) := o_172 (bg_dX6_length_0 14 172 rfl)
theorem dX6_length_15 : decode cX6_length 15 = .ok (.aload_n 0, 1) := o_42 (bg_dX6_length_0 15 42 rfl)
theorem dX6_length_16 : decode cX6_length 16 = .ok (.getfield 10, 3) := o_180 (bg_dX6_length_0 16 180 rfl) (bg_dX6_length_0 17 0 rfl) (bg_dX6_length_0 18 10 rfl)
theorem dX6_length_19 : decode cX6_length 19 = .ok (.iload_n 1, 1) := o_27 (bg_dX6_length_0 19 27 rfl)
theorem dX6_length_20 : decode cX6_length 20 = .ok (.invokevirtual 197, 3) := o_182 (bg_dX6_length_0 20 182 rfl) (bg_dX6_length_0 21 0 rfl) (bg_dX6_length_0 22 197 rfl)
theorem dX6_length_23 : decode cX6_length 23 = .ok (.ireturn, 1) := o_172 (bg_dX6_length_0 23 172 rfl)
theorem bg_dX6_needs_0 : bysAt cX6_needs 0 [42, 27, 28, 182, 0, 200, 153, 0, 11, 42, 29, 182, 0, 112, 154, 0, 10, 42, 16, 254, 182, 0, 70, 172, 42] := bysAt_of (by decide +kernel)
theorem dX6_needs_0 : decode cX6_needs 0 = .ok (.aload_n 0, 1) := o_42 (bg_dX6_needs_0 0 42 rfl)
theorem dX6_needs_1 : decode cX6_needs 1 = .ok (.iload_n 1, 1) := o_27 (bg_dX6_needs_0 1 27 rfl)
theorem dX6_needs_2 : decode cX6_needs 2 = .ok (.iload_n 2, 1) := o_28 (bg_dX6_needs_0 2 28 rfl)
theorem dX6_needs_3 : decode cX6_needs 3 = .ok (.invokevirtual 200, 3) := o_182 (bg_dX6_needs_0 3 182 rfl) (bg_dX6_needs_0 4 0 rfl) (bg_dX6_needs_0 5 200 rfl)
theorem dX6_needs_6 : decode cX6_needs 6 = .ok (.ifCond .eq 11, 3) := o_153 (bg_dX6_needs_0 6 153 rfl) (bg_dX6_needs_0 7 0 rfl) (bg_dX6_needs_0 8 11 rfl) (by decide +kernel)
theorem dX6_needs_9 : decode cX6_needs 9 = .ok (.aload_n 0, 1) := o_42 (bg_dX6_needs_0 9 42 rfl)
theorem dX6_needs_10 : decode cX6_needs 10 = .ok (.iload_n 3, 1) := o_29 (bg_dX6_needs_0 10 29 rfl)
theorem dX6_needs_11 : decode cX6_needs 11 = .ok (.invokevirtual 112, 3) := o_182 (bg_dX6_needs_0 11 182 rfl) (bg_dX6_needs_0 12 0 rfl) (bg_dX6_needs_0 13 112 rfl)
theorem dX6_needs_14 : decode cX6_needs 14 = .ok (.ifCond .ne 10, 3) := o_154 (bg_dX6_needs_0 14 154 rfl) (bg_dX6_needs_0 15 0 rfl) (bg_dX6_needs_0 16 10 rfl) (by decide +kernel)
theorem dX6_needs_17 : decode cX6_needs 17 = .ok (.aload_n 0, 1) := o_42 (bg_dX6_needs_0 17 42 rfl)
theorem dX6_needs_18 : decode cX6_needs 18 = .ok (.bipush (-2), 2) := o_16 (bg_dX6_needs_0 18 16 rfl) (bg_dX6_needs_0 19 254 rfl) (by decide +kernel)
theorem dX6_needs_20 : decode cX6_needs 20 = .ok (.invokevirtual 70, 3) := o_182 (bg_dX6_needs_0 20 182 rfl) (bg_dX6_needs_0 21 0 rfl) (bg_dX6_needs_0 22 70 rfl)
theorem dX6_needs_23 : decode cX6_needs 23 = .ok (.ireturn, 1) := o_172 (bg_dX6_needs_0 23 172 rfl)
theorem dX6_needs_24 : decode cX6_needs 24 = .ok (.aload_n 0, 1) := o_42 (bg_dX6_needs_0 24 42 rfl)
theorem bg_dX6_needs_25 : bysAt cX6_needs 25 [180, 0, 28, 180, 0, 203, 42, 180, 0, 10, 27, 28, 182, 0, 207, 42, 180, 0, 28, 180, 0, 203, 42, 180, 0, 10, 29, 182, 0, 219] := bysAt_of (by decide +kernel)
theorem dX6_needs_25 : decode cX6_needs 25 = .ok (.getfield 28, 3) := o_180 (bg_dX6_needs_25 0 180 rfl) (bg_dX6_needs_25 1 0 rfl) (bg_dX6_needs_25 2 28 rfl)
theorem dX6_needs_28 : decode cX6_needs 28 = .ok (.getfield 203, 3) := o_180 (bg_dX6_needs_25 3 180 rfl) (bg_dX6_needs_25 4 0 rfl) (bg_dX6_needs_25 5 203 rfl)
theorem dX6_needs_31 : decode cX6_needs 31 = .ok (.aload_n 0, 1) := o_42 (bg_dX6_needs_25 6 42 rfl)
theorem dX6_needs_32 : decode cX6_needs 32 = .ok (.getfield 10, 3) := o_180 (bg_dX6_needs_25 7 180 rfl) (bg_dX6_needs_25 8 0 rfl) (bg_dX6_needs_25 9 10 rfl)
theorem dX6_needs_35 : decode cX6_needs 35 = .ok (.iload_n 1, 1) := o_27 (bg_dX6_needs_25 10 27 rfl)
theorem dX6_needs_36 : decode cX6_needs 36 = .ok (.iload_n 2, 1) := o_28 (bg_dX6_needs_25 11 28 rfl)
theorem dX6_needs_37 : decode cX6_needs 37 = .ok (.invokevirtual 207, 3) := o_182 (bg_dX6_needs_25 12 182 rfl) (bg_dX6_needs_25 13 0 rfl) (bg_dX6_needs_25 14 207 rfl)
theorem dX6_needs_40 : decode cX6_needs 40 = .ok (.aload_n 0, 1) := o_42 (bg_dX6_needs_25 15 42 rfl)
theorem dX6_needs_41 : decode cX6_needs 41 = .ok (.getfield 28, 3) := o_180 (bg_dX6_needs_25 16 180 rfl) (bg_dX6_needs_25 17 0 rfl) (bg_dX6_needs_25 18 28 rfl)
theorem dX6_needs_44 : decode cX6_needs 44 = .ok (.getfield 203, 3) := o_180 (bg_dX6_needs_25 19 180 rfl) (bg_dX6_needs_25 20 0 rfl) (bg_dX6_needs_25 21 203 rfl)
theorem dX6_needs_47 : decode cX6_needs 47 = .ok (.aload_n 0, 1) := o_42 (bg_dX6_needs_25 22 42 rfl)
theorem dX6_needs_48 : decode cX6_needs 48 = .ok (.getfield 10, 3) := o_180 (bg_dX6_needs_25 23 180 rfl) (bg_dX6_needs_25 24 0 rfl) (bg_dX6_needs_25 25 10 rfl)
theorem dX6_needs_51 : decode cX6_needs 51 = .ok (.iload_n 3, 1) := o_29 (bg_dX6_needs_25 26 29 rfl)
theorem dX6_needs_52 : decode cX6_needs 52 = .ok (.invokevirtual 219, 3) := o_182 (bg_dX6_needs_25 27 182 rfl) (bg_dX6_needs_25 28 0 rfl) (bg_dX6_needs_25 29 219 rfl)
theorem bg_dX6_needs_55 : bysAt cX6_needs 55 [172] := bysAt_of (by decide +kernel)
theorem dX6_needs_55 : decode cX6_needs 55 = .ok (.ireturn, 1) := o_172 (bg_dX6_needs_55 0 172 rfl)
theorem bg_dX6_part_0 : bysAt cX6_part 0 [27, 4, 16, 99, 184, 0, 66, 153, 0, 13, 28, 3, 16, 99, 184, 0, 66, 154, 0, 10, 42, 16, 254, 182, 0, 70, 172] := bysAt_of (by decide +kernel)
theorem dX6_part_0 : decode cX6_part 0 = .ok (.iload_n 1, 1) := o_27 (bg_dX6_part_0 0 27 rfl)
theorem dX6_part_1 : decode cX6_part 1 = .ok (.iconst 1, 1) := o_4 (bg_dX6_part_0 1 4 rfl)
theorem dX6_part_2 : decode cX6_part 2 = .ok (.bipush 99, 2) := o_16 (bg_dX6_part_0 2 16 rfl) (bg_dX6_part_0 3 99 rfl) (by decide +kernel)
theorem dX6_part_4 : decode cX6_part 4 = .ok (.invokestatic 66, 3) := o_184 (bg_dX6_part_0 4 184 rfl) (bg_dX6_part_0 5 0 rfl) (bg_dX6_part_0 6 66 rfl)
theorem dX6_part_7 : decode cX6_part 7 = .ok (.ifCond .eq 13, 3) := o_153 (bg_dX6_part_0 7 153 rfl) (bg_dX6_part_0 8 0 rfl) (bg_dX6_part_0 9 13 rfl) (by decide +kernel)
theorem dX6_part_10 : decode cX6_part 10 = .ok (.iload_n 2, 1) := o_28 (bg_dX6_part_0 10 28 rfl)
theorem dX6_part_11 : decode cX6_part 11 = .ok (.iconst 0, 1) := o_3 (bg_dX6_part_0 11 3 rfl)
theorem dX6_part_12 : decode cX6_part 12 = .ok (.bipush 99, 2) := o_16 (bg_dX6_part_0 12 16 rfl) (bg_dX6_part_0 13 99 rfl) (by decide +kernel)
theorem dX6_part_14 : decode cX6_part 14 = .ok (.invokestatic 66, 3) := o_184 (bg_dX6_part_0 14 184 rfl) (bg_dX6_part_0 15 0 rfl) (bg_dX6_part_0 16 66 rfl)
theorem dX6_part_17 : decode cX6_part 17 = .ok (.ifCond .ne 10, 3) := o_154 (bg_dX6_part_0 17 154 rfl) (bg_dX6_part_0 18 0 rfl) (bg_dX6_part_0 19 10 rfl) (by decide +kernel)
theorem dX6_part_20 : decode cX6_part 20 = .ok (.aload_n 0, 1) := o_42 (bg_dX6_part_0 20 42 rfl)
theorem dX6_part_21 : decode cX6_part 21 = .ok (.bipush (-2), 2) := o_16 (bg_dX6_part_0 21 16 rfl) (bg_dX6_part_0 22 254 rfl) (by decide +kernel)
theorem dX6_part_23 : decode cX6_part 23 = .ok (.invokevirtual 70, 3) := o_182 (bg_dX6_part_0 23 182 rfl) (bg_dX6_part_0 24 0 rfl) (bg_dX6_part_0 25 70 rfl)
theorem dX6_part_26 : decode cX6_part 26 = .ok (.ireturn, 1) := o_172 (bg_dX6_part_0 26 172 rfl)
theorem bg_dX6_part_27 : bysAt cX6_part 27 [42, 180, 0, 10, 6, 182, 0, 129, 154, 0, 10, 42, 16, 250, 182, 0, 70, 172, 42, 180, 0, 10, 27, 28, 182, 0, 150] := bysAt_of (by decide +kernel)
theorem dX6_part_27 : decode cX6_part 27 = .ok (.aload_n 0, 1) := o_42 (bg_dX6_part_27 0 42 rfl)
theorem dX6_part_28 : decode cX6_part 28 = .ok (.getfield 10, 3) := o_180 (bg_dX6_part_27 1 180 rfl) (bg_dX6_part_27 2 0 rfl) (bg_dX6_part_27 3 10 rfl)
theorem dX6_part_31 : decode cX6_part 31 = .ok (.iconst 3, 1) := o_6 (bg_dX6_part_27 4 6 rfl)
theorem dX6_part_32 : decode cX6_part 32 = .ok (.invokevirtual 129, 3) := o_182 (bg_dX6_part_27 5 182 rfl) (bg_dX6_part_27 6 0 rfl) (bg_dX6_part_27 7 129 rfl)
theorem dX6_part_35 : decode cX6_part 35 = .ok (.ifCond .ne 10, 3) := o_154 (bg_dX6_part_27 8 154 rfl) (bg_dX6_part_27 9 0 rfl) (bg_dX6_part_27 10 10 rfl) (by decide +kernel)
theorem dX6_part_38 : decode cX6_part 38 = .ok (.aload_n 0, 1) := o_42 (bg_dX6_part_27 11 42 rfl)
theorem dX6_part_39 : decode cX6_part 39 = .ok (.bipush (-6), 2) := o_16 (bg_dX6_part_27 12 16 rfl) (bg_dX6_part_27 13 250 rfl) (by decide +kernel)
theorem dX6_part_41 : decode cX6_part 41 = .ok (.invokevirtual 70, 3) := o_182 (bg_dX6_part_27 14 182 rfl) (bg_dX6_part_27 15 0 rfl) (bg_dX6_part_27 16 70 rfl)
theorem dX6_part_44 : decode cX6_part 44 = .ok (.ireturn, 1) := o_172 (bg_dX6_part_27 17 172 rfl)
theorem dX6_part_45 : decode cX6_part 45 = .ok (.aload_n 0, 1) := o_42 (bg_dX6_part_27 18 42 rfl)
theorem dX6_part_46 : decode cX6_part 46 = .ok (.getfield 10, 3) := o_180 (bg_dX6_part_27 19 180 rfl) (bg_dX6_part_27 20 0 rfl) (bg_dX6_part_27 21 10 rfl)
theorem dX6_part_49 : decode cX6_part 49 = .ok (.iload_n 1, 1) := o_27 (bg_dX6_part_27 22 27 rfl)
theorem dX6_part_50 : decode cX6_part 50 = .ok (.iload_n 2, 1) := o_28 (bg_dX6_part_27 23 28 rfl)
theorem dX6_part_51 : decode cX6_part 51 = .ok (.invokevirtual 150, 3) := o_182 (bg_dX6_part_27 24 182 rfl) (bg_dX6_part_27 25 0 rfl) (bg_dX6_part_27 26 150 rfl)
theorem bg_dX6_part_54 : bysAt cX6_part 54 [172] := bysAt_of (by decide +kernel)
theorem dX6_part_54 : decode cX6_part 54 = .ok (.ireturn, 1) := o_172 (bg_dX6_part_54 0 172 rfl)
theorem bg_dX6_prop_0 : bysAt cX6_prop 0 [42, 27, 182, 0, 112, 153, 0, 25, 28, 3, 17, 3, 231, 184, 0, 66, 153, 0, 14, 29, 3, 17, 3, 231, 184, 0, 66, 154, 0, 10] := bysAt_of (by decide +kernel)
theorem dX6_prop_0 : decode cX6_prop 0 = .ok (.aload_n 0, 1) := o_42 (bg_dX6_prop_0 0 42 rfl)
theorem dX6_prop_1 : decode cX6_prop 1 = .ok (.iload_n 1, 1) := o_27 (bg_dX6_prop_0 1 27 rfl)
theorem dX6_prop_2 : decode cX6_prop 2 = .ok (.invokevirtual 112, 3) := o_182 (bg_dX6_prop_0 2 182 rfl) (bg_dX6_prop_0 3 0 rfl) (bg_dX6_prop_0 4 112 rfl)
theorem dX6_prop_5 : decode cX6_prop 5 = .ok (.ifCond .eq 25, 3) := o_153 (bg_dX6_prop_0 5 153 rfl) (bg_dX6_prop_0 6 0 rfl) (bg_dX6_prop_0 7 25 rfl) (by decide +kernel)
theorem dX6_prop_8 : decode cX6_prop 8 = .ok (.iload_n 2, 1) := o_28 (bg_dX6_prop_0 8 28 rfl)
theorem dX6_prop_9 : decode cX6_prop 9 = .ok (.iconst 0, 1) := o_3 (bg_dX6_prop_0 9 3 rfl)
theorem dX6_prop_10 : decode cX6_prop 10 = .ok (.sipush 999, 3) := o_17 (bg_dX6_prop_0 10 17 rfl) (bg_dX6_prop_0 11 3 rfl) (bg_dX6_prop_0 12 231 rfl) (by decide +kernel)
theorem dX6_prop_13 : decode cX6_prop 13 = .ok (.invokestatic 66, 3) := o_184 (bg_dX6_prop_0 13 184 rfl) (bg_dX6_prop_0 14 0 rfl) (bg_dX6_prop_0 15 66 rfl)
theorem dX6_prop_16 : decode cX6_prop 16 = .ok (.ifCond .eq 14, 3) := o_153 (bg_dX6_prop_0 16 153 rfl) (bg_dX6_prop_0 17 0 rfl) (bg_dX6_prop_0 18 14 rfl) (by decide +kernel)
theorem dX6_prop_19 : decode cX6_prop 19 = .ok (.iload_n 3, 1) := o_29 (bg_dX6_prop_0 19 29 rfl)
theorem dX6_prop_20 : decode cX6_prop 20 = .ok (.iconst 0, 1) := o_3 (bg_dX6_prop_0 20 3 rfl)
theorem dX6_prop_21 : decode cX6_prop 21 = .ok (.sipush 999, 3) := o_17 (bg_dX6_prop_0 21 17 rfl) (bg_dX6_prop_0 22 3 rfl) (bg_dX6_prop_0 23 231 rfl) (by decide +kernel)
theorem dX6_prop_24 : decode cX6_prop 24 = .ok (.invokestatic 66, 3) := o_184 (bg_dX6_prop_0 24 184 rfl) (bg_dX6_prop_0 25 0 rfl) (bg_dX6_prop_0 26 66 rfl)
theorem dX6_prop_27 : decode cX6_prop 27 = .ok (.ifCond .ne 10, 3) := o_154 (bg_dX6_prop_0 27 154 rfl) (bg_dX6_prop_0 28 0 rfl) (bg_dX6_prop_0 29 10 rfl) (by decide +kernel)
theorem bg_dX6_prop_30 : bysAt cX6_prop 30 [42, 16, 254, 182, 0, 70, 172, 42, 180, 0, 10, 27, 28, 29, 182, 0, 143, 4, 172] := bysAt_of (by decide +kernel)
theorem dX6_prop_30 : decode cX6_prop 30 = .ok (.aload_n 0, 1) := o_42 (bg_dX6_prop_30 0 42 rfl)
theorem dX6_prop_31 : decode cX6_prop 31 = .ok (.bipush (-2), 2) := o_16 (bg_dX6_prop_30 1 16 rfl) (bg_dX6_prop_30 2 254 rfl) (by decide +kernel)
theorem dX6_prop_33 : decode cX6_prop 33 = .ok (.invokevirtual 70, 3) := o_182 (bg_dX6_prop_30 3 182 rfl) (bg_dX6_prop_30 4 0 rfl) (bg_dX6_prop_30 5 70 rfl)
theorem dX6_prop_36 : decode cX6_prop 36 = .ok (.ireturn, 1) := o_172 (bg_dX6_prop_30 6 172 rfl)
theorem dX6_prop_37 : decode cX6_prop 37 = .ok (.aload_n 0, 1) := o_42 (bg_dX6_prop_30 7 42 rfl)
theorem dX6_prop_38 : decode cX6_prop 38 = .ok (.getfield 10, 3) := o_180 (bg_dX6_prop_30 8 180 rfl) (bg_dX6_prop_30 9 0 rfl) (bg_dX6_prop_30 10 10 rfl)
theorem dX6_prop_41 : decode cX6_prop 41 = .ok (.iload_n 1, 1) := o_27 (bg_dX6_prop_30 11 27 rfl)
theorem dX6_prop_42 : decode cX6_prop 42 = .ok (.iload_n 2, 1) := o_28 (bg_dX6_prop_30 12 28 rfl)
theorem dX6_prop_43 : decode cX6_prop 43 = .ok (.iload_n 3, 1) := o_29 (bg_dX6_prop_30 13 29 rfl)
theorem dX6_prop_44 : decode cX6_prop 44 = .ok (.invokevirtual 143, 3) := o_182 (bg_dX6_prop_30 14 182 rfl) (bg_dX6_prop_30 15 0 rfl) (bg_dX6_prop_30 16 143 rfl)
theorem dX6_prop_47 : decode cX6_prop 47 = .ok (.iconst 1, 1) := o_4 (bg_dX6_prop_30 17 4 rfl)
theorem dX6_prop_48 : decode cX6_prop 48 = .ok (.ireturn, 1) := o_172 (bg_dX6_prop_30 18 172 rfl)
theorem bg_dX6_road_0 : bysAt cX6_road 0 [27, 184, 0, 126, 153, 0, 58, 28, 184, 0, 126, 153, 0, 51, 27, 28, 159, 0, 46, 29, 4, 16, 60, 184, 0, 66, 153, 0, 36] := bysAt_of (by decide +kernel)
theorem dX6_road_0 : decode cX6_road 0 = .ok (.iload_n 1, 1) := o_27 (bg_dX6_road_0 0 27 rfl)
theorem dX6_road_1 : decode cX6_road 1 = .ok (.invokestatic 126, 3) := o_184 (bg_dX6_road_0 1 184 rfl) (bg_dX6_road_0 2 0 rfl) (bg_dX6_road_0 3 126 rfl)
theorem dX6_road_4 : decode cX6_road 4 = .ok (.ifCond .eq 58, 3) := o_153 (bg_dX6_road_0 4 153 rfl) (bg_dX6_road_0 5 0 rfl) (bg_dX6_road_0 6 58 rfl) (by decide +kernel)
theorem dX6_road_7 : decode cX6_road 7 = .ok (.iload_n 2, 1) := o_28 (bg_dX6_road_0 7 28 rfl)
theorem dX6_road_8 : decode cX6_road 8 = .ok (.invokestatic 126, 3) := o_184 (bg_dX6_road_0 8 184 rfl) (bg_dX6_road_0 9 0 rfl) (bg_dX6_road_0 10 126 rfl)
theorem dX6_road_11 : decode cX6_road 11 = .ok (.ifCond .eq 51, 3) := o_153 (bg_dX6_road_0 11 153 rfl) (bg_dX6_road_0 12 0 rfl) (bg_dX6_road_0 13 51 rfl) (by decide +kernel)
theorem dX6_road_14 : decode cX6_road 14 = .ok (.iload_n 1, 1) := o_27 (bg_dX6_road_0 14 27 rfl)
theorem dX6_road_15 : decode cX6_road 15 = .ok (.iload_n 2, 1) := o_28 (bg_dX6_road_0 15 28 rfl)
theorem dX6_road_16 : decode cX6_road 16 = .ok (.if_icmp .eq 46, 3) := o_159 (bg_dX6_road_0 16 159 rfl) (bg_dX6_road_0 17 0 rfl) (bg_dX6_road_0 18 46 rfl) (by decide +kernel)
theorem dX6_road_19 : decode cX6_road 19 = .ok (.iload_n 3, 1) := o_29 (bg_dX6_road_0 19 29 rfl)
theorem dX6_road_20 : decode cX6_road 20 = .ok (.iconst 1, 1) := o_4 (bg_dX6_road_0 20 4 rfl)
theorem dX6_road_21 : decode cX6_road 21 = .ok (.bipush 60, 2) := o_16 (bg_dX6_road_0 21 16 rfl) (bg_dX6_road_0 22 60 rfl) (by decide +kernel)
theorem dX6_road_23 : decode cX6_road 23 = .ok (.invokestatic 66, 3) := o_184 (bg_dX6_road_0 23 184 rfl) (bg_dX6_road_0 24 0 rfl) (bg_dX6_road_0 25 66 rfl)
theorem dX6_road_26 : decode cX6_road 26 = .ok (.ifCond .eq 36, 3) := o_153 (bg_dX6_road_0 26 153 rfl) (bg_dX6_road_0 27 0 rfl) (bg_dX6_road_0 28 36 rfl) (by decide +kernel)
theorem bg_dX6_road_29 : bysAt cX6_road 29 [21, 4, 3, 16, 9, 184, 0, 66, 153, 0, 25, 21, 5, 4, 16, 99, 184, 0, 66, 153, 0, 14, 21, 6, 3, 16, 15, 184, 0, 66] := bysAt_of (by decide +kernel)
theorem dX6_road_29 : decode cX6_road 29 = .ok (.iload 4, 2) := o_21 (bg_dX6_road_29 0 21 rfl) (bg_dX6_road_29 1 4 rfl)
theorem dX6_road_31 : decode cX6_road 31 = .ok (.iconst 0, 1) := o_3 (bg_dX6_road_29 2 3 rfl)
theorem dX6_road_32 : decode cX6_road 32 = .ok (.bipush 9, 2) := o_16 (bg_dX6_road_29 3 16 rfl) (bg_dX6_road_29 4 9 rfl) (by decide +kernel)
theorem dX6_road_34 : decode cX6_road 34 = .ok (.invokestatic 66, 3) := o_184 (bg_dX6_road_29 5 184 rfl) (bg_dX6_road_29 6 0 rfl) (bg_dX6_road_29 7 66 rfl)
theorem dX6_road_37 : decode cX6_road 37 = .ok (.ifCond .eq 25, 3) := o_153 (bg_dX6_road_29 8 153 rfl) (bg_dX6_road_29 9 0 rfl) (bg_dX6_road_29 10 25 rfl) (by decide +kernel)
theorem dX6_road_40 : decode cX6_road 40 = .ok (.iload 5, 2) := o_21 (bg_dX6_road_29 11 21 rfl) (bg_dX6_road_29 12 5 rfl)
theorem dX6_road_42 : decode cX6_road 42 = .ok (.iconst 1, 1) := o_4 (bg_dX6_road_29 13 4 rfl)
theorem dX6_road_43 : decode cX6_road 43 = .ok (.bipush 99, 2) := o_16 (bg_dX6_road_29 14 16 rfl) (bg_dX6_road_29 15 99 rfl) (by decide +kernel)
theorem dX6_road_45 : decode cX6_road 45 = .ok (.invokestatic 66, 3) := o_184 (bg_dX6_road_29 16 184 rfl) (bg_dX6_road_29 17 0 rfl) (bg_dX6_road_29 18 66 rfl)
theorem dX6_road_48 : decode cX6_road 48 = .ok (.ifCond .eq 14, 3) := o_153 (bg_dX6_road_29 19 153 rfl) (bg_dX6_road_29 20 0 rfl) (bg_dX6_road_29 21 14 rfl) (by decide +kernel)
theorem dX6_road_51 : decode cX6_road 51 = .ok (.iload 6, 2) := o_21 (bg_dX6_road_29 22 21 rfl) (bg_dX6_road_29 23 6 rfl)
theorem dX6_road_53 : decode cX6_road 53 = .ok (.iconst 0, 1) := o_3 (bg_dX6_road_29 24 3 rfl)
theorem dX6_road_54 : decode cX6_road 54 = .ok (.bipush 15, 2) := o_16 (bg_dX6_road_29 25 16 rfl) (bg_dX6_road_29 26 15 rfl) (by decide +kernel)
theorem dX6_road_56 : decode cX6_road 56 = .ok (.invokestatic 66, 3) := o_184 (bg_dX6_road_29 27 184 rfl) (bg_dX6_road_29 28 0 rfl) (bg_dX6_road_29 29 66 rfl)
theorem bg_dX6_road_59 : bysAt cX6_road 59 [154, 0, 10, 42, 16, 254, 182, 0, 70, 172, 42, 180, 0, 10, 3, 182, 0, 129, 154, 0, 10, 42, 16, 250, 182, 0, 70, 172] := bysAt_of (by decide +kernel)
theorem dX6_road_59 : decode cX6_road 59 = .ok (.ifCond .ne 10, 3) := o_154 (bg_dX6_road_59 0 154 rfl) (bg_dX6_road_59 1 0 rfl) (bg_dX6_road_59 2 10 rfl) (by decide +kernel)
theorem dX6_road_62 : decode cX6_road 62 = .ok (.aload_n 0, 1) := o_42 (bg_dX6_road_59 3 42 rfl)
theorem dX6_road_63 : decode cX6_road 63 = .ok (.bipush (-2), 2) := o_16 (bg_dX6_road_59 4 16 rfl) (bg_dX6_road_59 5 254 rfl) (by decide +kernel)
theorem dX6_road_65 : decode cX6_road 65 = .ok (.invokevirtual 70, 3) := o_182 (bg_dX6_road_59 6 182 rfl) (bg_dX6_road_59 7 0 rfl) (bg_dX6_road_59 8 70 rfl)
theorem dX6_road_68 : decode cX6_road 68 = .ok (.ireturn, 1) := o_172 (bg_dX6_road_59 9 172 rfl)
theorem dX6_road_69 : decode cX6_road 69 = .ok (.aload_n 0, 1) := o_42 (bg_dX6_road_59 10 42 rfl)
theorem dX6_road_70 : decode cX6_road 70 = .ok (.getfield 10, 3) := o_180 (bg_dX6_road_59 11 180 rfl) (bg_dX6_road_59 12 0 rfl) (bg_dX6_road_59 13 10 rfl)
theorem dX6_road_73 : decode cX6_road 73 = .ok (.iconst 0, 1) := o_3 (bg_dX6_road_59 14 3 rfl)
theorem dX6_road_74 : decode cX6_road 74 = .ok (.invokevirtual 129, 3) := o_182 (bg_dX6_road_59 15 182 rfl) (bg_dX6_road_59 16 0 rfl) (bg_dX6_road_59 17 129 rfl)
theorem dX6_road_77 : decode cX6_road 77 = .ok (.ifCond .ne 10, 3) := o_154 (bg_dX6_road_59 18 154 rfl) (bg_dX6_road_59 19 0 rfl) (bg_dX6_road_59 20 10 rfl) (by decide +kernel)
theorem dX6_road_80 : decode cX6_road 80 = .ok (.aload_n 0, 1) := o_42 (bg_dX6_road_59 21 42 rfl)
theorem dX6_road_81 : decode cX6_road 81 = .ok (.bipush (-6), 2) := o_16 (bg_dX6_road_59 22 16 rfl) (bg_dX6_road_59 23 250 rfl) (by decide +kernel)
theorem dX6_road_83 : decode cX6_road 83 = .ok (.invokevirtual 70, 3) := o_182 (bg_dX6_road_59 24 182 rfl) (bg_dX6_road_59 25 0 rfl) (bg_dX6_road_59 26 70 rfl)
theorem dX6_road_86 : decode cX6_road 86 = .ok (.ireturn, 1) := o_172 (bg_dX6_road_59 27 172 rfl)
theorem bg_dX6_road_87 : bysAt cX6_road 87 [42, 180, 0, 10, 27, 28, 29, 21, 4, 21, 5, 21, 6, 182, 0, 132, 172] := bysAt_of (by decide +kernel)
theorem dX6_road_87 : decode cX6_road 87 = .ok (.aload_n 0, 1) := o_42 (bg_dX6_road_87 0 42 rfl)
theorem dX6_road_88 : decode cX6_road 88 = .ok (.getfield 10, 3) := o_180 (bg_dX6_road_87 1 180 rfl) (bg_dX6_road_87 2 0 rfl) (bg_dX6_road_87 3 10 rfl)
theorem dX6_road_91 : decode cX6_road 91 = .ok (.iload_n 1, 1) := o_27 (bg_dX6_road_87 4 27 rfl)
theorem dX6_road_92 : decode cX6_road 92 = .ok (.iload_n 2, 1) := o_28 (bg_dX6_road_87 5 28 rfl)
theorem dX6_road_93 : decode cX6_road 93 = .ok (.iload_n 3, 1) := o_29 (bg_dX6_road_87 6 29 rfl)
theorem dX6_road_94 : decode cX6_road 94 = .ok (.iload 4, 2) := o_21 (bg_dX6_road_87 7 21 rfl) (bg_dX6_road_87 8 4 rfl)
theorem dX6_road_96 : decode cX6_road 96 = .ok (.iload 5, 2) := o_21 (bg_dX6_road_87 9 21 rfl) (bg_dX6_road_87 10 5 rfl)
theorem dX6_road_98 : decode cX6_road 98 = .ok (.iload 6, 2) := o_21 (bg_dX6_road_87 11 21 rfl) (bg_dX6_road_87 12 6 rfl)
theorem dX6_road_100 : decode cX6_road 100 = .ok (.invokevirtual 132, 3) := o_182 (bg_dX6_road_87 13 182 rfl) (bg_dX6_road_87 14 0 rfl) (bg_dX6_road_87 15 132 rfl)
theorem dX6_road_103 : decode cX6_road 103 = .ok (.ireturn, 1) := o_172 (bg_dX6_road_87 16 172 rfl)
theorem bg_dX6_roadOf_0 : bysAt cX6_roadOf 0 [42, 27, 182, 0, 136, 153, 0, 13, 28, 3, 16, 6, 184, 0, 66, 154, 0, 10, 42, 16, 254, 182, 0, 70, 172, 42] := bysAt_of (by decide +kernel)
theorem dX6_roadOf_0 : decode cX6_roadOf 0 = .ok (.aload_n 0, 1) := o_42 (bg_dX6_roadOf_0 0 42 rfl)
theorem dX6_roadOf_1 : decode cX6_roadOf 1 = .ok (.iload_n 1, 1) := o_27 (bg_dX6_roadOf_0 1 27 rfl)
theorem dX6_roadOf_2 : decode cX6_roadOf 2 = .ok (.invokevirtual 136, 3) := o_182 (bg_dX6_roadOf_0 2 182 rfl) (bg_dX6_roadOf_0 3 0 rfl) (bg_dX6_roadOf_0 4 136 rfl)
theorem dX6_roadOf_5 : decode cX6_roadOf 5 = .ok (.ifCond .eq 13, 3) := o_153 (bg_dX6_roadOf_0 5 153 rfl) (bg_dX6_roadOf_0 6 0 rfl) (bg_dX6_roadOf_0 7 13 rfl) (by decide +kernel)
theorem dX6_roadOf_8 : decode cX6_roadOf 8 = .ok (.iload_n 2, 1) := o_28 (bg_dX6_roadOf_0 8 28 rfl)
theorem dX6_roadOf_9 : decode cX6_roadOf 9 = .ok (.iconst 0, 1) := o_3 (bg_dX6_roadOf_0 9 3 rfl)
theorem dX6_roadOf_10 : decode cX6_roadOf 10 = .ok (.bipush 6, 2) := o_16 (bg_dX6_roadOf_0 10 16 rfl) (bg_dX6_roadOf_0 11 6 rfl) (by decide +kernel)
theorem dX6_roadOf_12 : decode cX6_roadOf 12 = .ok (.invokestatic 66, 3) := o_184 (bg_dX6_roadOf_0 12 184 rfl) (bg_dX6_roadOf_0 13 0 rfl) (bg_dX6_roadOf_0 14 66 rfl)
theorem dX6_roadOf_15 : decode cX6_roadOf 15 = .ok (.ifCond .ne 10, 3) := o_154 (bg_dX6_roadOf_0 15 154 rfl) (bg_dX6_roadOf_0 16 0 rfl) (bg_dX6_roadOf_0 17 10 rfl) (by decide +kernel)
theorem dX6_roadOf_18 : decode cX6_roadOf 18 = .ok (.aload_n 0, 1) := o_42 (bg_dX6_roadOf_0 18 42 rfl)
theorem dX6_roadOf_19 : decode cX6_roadOf 19 = .ok (.bipush (-2), 2) := o_16 (bg_dX6_roadOf_0 19 16 rfl) (bg_dX6_roadOf_0 20 254 rfl) (by decide +kernel)
theorem dX6_roadOf_21 : decode cX6_roadOf 21 = .ok (.invokevirtual 70, 3) := o_182 (bg_dX6_roadOf_0 21 182 rfl) (bg_dX6_roadOf_0 22 0 rfl) (bg_dX6_roadOf_0 23 70 rfl)
theorem dX6_roadOf_24 : decode cX6_roadOf 24 = .ok (.ireturn, 1) := o_172 (bg_dX6_roadOf_0 24 172 rfl)
theorem dX6_roadOf_25 : decode cX6_roadOf 25 = .ok (.aload_n 0, 1) := o_42 (bg_dX6_roadOf_0 25 42 rfl)
theorem bg_dX6_roadOf_26 : bysAt cX6_roadOf 26 [180, 0, 10, 27, 28, 182, 0, 165, 172] := bysAt_of (by decide +kernel)
theorem dX6_roadOf_26 : decode cX6_roadOf 26 = .ok (.getfield 10, 3) := o_180 (bg_dX6_roadOf_26 0 180 rfl) (bg_dX6_roadOf_26 1 0 rfl) (bg_dX6_roadOf_26 2 10 rfl)
theorem dX6_roadOf_29 : decode cX6_roadOf 29 = .ok (.iload_n 1, 1) := o_27 (bg_dX6_roadOf_26 3 27 rfl)
theorem dX6_roadOf_30 : decode cX6_roadOf 30 = .ok (.iload_n 2, 1) := o_28 (bg_dX6_roadOf_26 4 28 rfl)
theorem dX6_roadOf_31 : decode cX6_roadOf 31 = .ok (.invokevirtual 165, 3) := o_182 (bg_dX6_roadOf_26 5 182 rfl) (bg_dX6_roadOf_26 6 0 rfl) (bg_dX6_roadOf_26 7 165 rfl)
theorem dX6_roadOf_34 : decode cX6_roadOf 34 = .ok (.ireturn, 1) := o_172 (bg_dX6_roadOf_26 8 172 rfl)
theorem bg_dX6_row_0 : bysAt cX6_row 0 [27, 184, 0, 62, 153, 0, 22, 28, 3, 7, 184, 0, 66, 153, 0, 13, 29, 3, 16, 40, 184, 0, 66, 154, 0, 10, 42] := bysAt_of (by decide +kernel)
theorem dX6_row_0 : decode cX6_row 0 = .ok (.iload_n 1, 1) := o_27 (bg_dX6_row_0 0 27 rfl)
theorem dX6_row_1 : decode cX6_row 1 = .ok (.invokestatic 62, 3) := o_184 (bg_dX6_row_0 1 184 rfl) (bg_dX6_row_0 2 0 rfl) (bg_dX6_row_0 3 62 rfl)
theorem dX6_row_4 : decode cX6_row 4 = .ok (.ifCond .eq 22, 3) := o_153 (bg_dX6_row_0 4 153 rfl) (bg_dX6_row_0 5 0 rfl) (bg_dX6_row_0 6 22 rfl) (by decide +kernel)
theorem dX6_row_7 : decode cX6_row 7 = .ok (.iload_n 2, 1) := o_28 (bg_dX6_row_0 7 28 rfl)
theorem dX6_row_8 : decode cX6_row 8 = .ok (.iconst 0, 1) := o_3 (bg_dX6_row_0 8 3 rfl)
theorem dX6_row_9 : decode cX6_row 9 = .ok (.iconst 4, 1) := o_7 (bg_dX6_row_0 9 7 rfl)
theorem dX6_row_10 : decode cX6_row 10 = .ok (.invokestatic 66, 3) := o_184 (bg_dX6_row_0 10 184 rfl) (bg_dX6_row_0 11 0 rfl) (bg_dX6_row_0 12 66 rfl)
theorem dX6_row_13 : decode cX6_row 13 = .ok (.ifCond .eq 13, 3) := o_153 (bg_dX6_row_0 13 153 rfl) (bg_dX6_row_0 14 0 rfl) (bg_dX6_row_0 15 13 rfl) (by decide +kernel)
theorem dX6_row_16 : decode cX6_row 16 = .ok (.iload_n 3, 1) := o_29 (bg_dX6_row_0 16 29 rfl)
theorem dX6_row_17 : decode cX6_row 17 = .ok (.iconst 0, 1) := o_3 (bg_dX6_row_0 17 3 rfl)
theorem dX6_row_18 : decode cX6_row 18 = .ok (.bipush 40, 2) := o_16 (bg_dX6_row_0 18 16 rfl) (bg_dX6_row_0 19 40 rfl) (by decide +kernel)
theorem dX6_row_20 : decode cX6_row 20 = .ok (.invokestatic 66, 3) := o_184 (bg_dX6_row_0 20 184 rfl) (bg_dX6_row_0 21 0 rfl) (bg_dX6_row_0 22 66 rfl)
theorem dX6_row_23 : decode cX6_row 23 = .ok (.ifCond .ne 10, 3) := o_154 (bg_dX6_row_0 23 154 rfl) (bg_dX6_row_0 24 0 rfl) (bg_dX6_row_0 25 10 rfl) (by decide +kernel)
theorem dX6_row_26 : decode cX6_row 26 = .ok (.aload_n 0, 1) := o_42 (bg_dX6_row_0 26 42 rfl)
theorem bg_dX6_row_27 : bysAt cX6_row 27 [16, 254, 182, 0, 70, 172, 42, 180, 0, 35, 27, 28, 29, 182, 0, 74, 4, 172] := bysAt_of (by decide +kernel)
theorem dX6_row_27 : decode cX6_row 27 = .ok (.bipush (-2), 2) := o_16 (bg_dX6_row_27 0 16 rfl) (bg_dX6_row_27 1 254 rfl) (by decide +kernel)
theorem dX6_row_29 : decode cX6_row 29 = .ok (.invokevirtual 70, 3) := o_182 (bg_dX6_row_27 2 182 rfl) (bg_dX6_row_27 3 0 rfl) (bg_dX6_row_27 4 70 rfl)
theorem dX6_row_32 : decode cX6_row 32 = .ok (.ireturn, 1) := o_172 (bg_dX6_row_27 5 172 rfl)
theorem dX6_row_33 : decode cX6_row 33 = .ok (.aload_n 0, 1) := o_42 (bg_dX6_row_27 6 42 rfl)
theorem dX6_row_34 : decode cX6_row 34 = .ok (.getfield 35, 3) := o_180 (bg_dX6_row_27 7 180 rfl) (bg_dX6_row_27 8 0 rfl) (bg_dX6_row_27 9 35 rfl)
theorem dX6_row_37 : decode cX6_row 37 = .ok (.iload_n 1, 1) := o_27 (bg_dX6_row_27 10 27 rfl)
theorem dX6_row_38 : decode cX6_row 38 = .ok (.iload_n 2, 1) := o_28 (bg_dX6_row_27 11 28 rfl)
theorem dX6_row_39 : decode cX6_row 39 = .ok (.iload_n 3, 1) := o_29 (bg_dX6_row_27 12 29 rfl)
theorem dX6_row_40 : decode cX6_row 40 = .ok (.invokevirtual 74, 3) := o_182 (bg_dX6_row_27 13 182 rfl) (bg_dX6_row_27 14 0 rfl) (bg_dX6_row_27 15 74 rfl)
theorem dX6_row_43 : decode cX6_row 43 = .ok (.iconst 1, 1) := o_4 (bg_dX6_row_27 16 4 rfl)
theorem dX6_row_44 : decode cX6_row 44 = .ok (.ireturn, 1) := o_172 (bg_dX6_row_27 17 172 rfl)
theorem bg_dX6_says_0 : bysAt cX6_says 0 [27, 184, 0, 62, 153, 0, 12, 28, 3, 8, 184, 0, 66, 154, 0, 10, 42, 16, 254, 182, 0, 70, 172, 42, 180, 0, 35] := bysAt_of (by decide +kernel)
theorem dX6_says_0 : decode cX6_says 0 = .ok (.iload_n 1, 1) := o_27 (bg_dX6_says_0 0 27 rfl)
theorem dX6_says_1 : decode cX6_says 1 = .ok (.invokestatic 62, 3) := o_184 (bg_dX6_says_0 1 184 rfl) (bg_dX6_says_0 2 0 rfl) (bg_dX6_says_0 3 62 rfl)
theorem dX6_says_4 : decode cX6_says 4 = .ok (.ifCond .eq 12, 3) := o_153 (bg_dX6_says_0 4 153 rfl) (bg_dX6_says_0 5 0 rfl) (bg_dX6_says_0 6 12 rfl) (by decide +kernel)
theorem dX6_says_7 : decode cX6_says 7 = .ok (.iload_n 2, 1) := o_28 (bg_dX6_says_0 7 28 rfl)
theorem dX6_says_8 : decode cX6_says 8 = .ok (.iconst 0, 1) := o_3 (bg_dX6_says_0 8 3 rfl)
theorem dX6_says_9 : decode cX6_says 9 = .ok (.iconst 5, 1) := o_8 (bg_dX6_says_0 9 8 rfl)
theorem dX6_says_10 : decode cX6_says 10 = .ok (.invokestatic 66, 3) := o_184 (bg_dX6_says_0 10 184 rfl) (bg_dX6_says_0 11 0 rfl) (bg_dX6_says_0 12 66 rfl)
theorem dX6_says_13 : decode cX6_says 13 = .ok (.ifCond .ne 10, 3) := o_154 (bg_dX6_says_0 13 154 rfl) (bg_dX6_says_0 14 0 rfl) (bg_dX6_says_0 15 10 rfl) (by decide +kernel)
theorem dX6_says_16 : decode cX6_says 16 = .ok (.aload_n 0, 1) := o_42 (bg_dX6_says_0 16 42 rfl)
theorem dX6_says_17 : decode cX6_says 17 = .ok (.bipush (-2), 2) := o_16 (bg_dX6_says_0 17 16 rfl) (bg_dX6_says_0 18 254 rfl) (by decide +kernel)
theorem dX6_says_19 : decode cX6_says 19 = .ok (.invokevirtual 70, 3) := o_182 (bg_dX6_says_0 19 182 rfl) (bg_dX6_says_0 20 0 rfl) (bg_dX6_says_0 21 70 rfl)
theorem dX6_says_22 : decode cX6_says 22 = .ok (.ireturn, 1) := o_172 (bg_dX6_says_0 22 172 rfl)
theorem dX6_says_23 : decode cX6_says 23 = .ok (.aload_n 0, 1) := o_42 (bg_dX6_says_0 23 42 rfl)
theorem dX6_says_24 : decode cX6_says 24 = .ok (.getfield 35, 3) := o_180 (bg_dX6_says_0 24 180 rfl) (bg_dX6_says_0 25 0 rfl) (bg_dX6_says_0 26 35 rfl)
theorem bg_dX6_says_27 : bysAt cX6_says 27 [27, 182, 0, 102, 153, 0, 10, 42, 16, 253, 182, 0, 70, 172, 42, 180, 0, 35, 180, 0, 109, 27, 46, 16, 10, 100] := bysAt_of (by decide +kernel)
theorem dX6_says_27 : decode cX6_says 27 = .ok (.iload_n 1, 1) := o_27 (bg_dX6_says_27 0 27 rfl)
theorem dX6_says_28 : decode cX6_says 28 = .ok (.invokevirtual 102, 3) := o_182 (bg_dX6_says_27 1 182 rfl) (bg_dX6_says_27 2 0 rfl) (bg_dX6_says_27 3 102 rfl)
theorem dX6_says_31 : decode cX6_says 31 = .ok (.ifCond .eq 10, 3) := o_153 (bg_dX6_says_27 4 153 rfl) (bg_dX6_says_27 5 0 rfl) (bg_dX6_says_27 6 10 rfl) (by decide +kernel)
theorem dX6_says_34 : decode cX6_says 34 = .ok (.aload_n 0, 1) := o_42 (bg_dX6_says_27 7 42 rfl)
theorem dX6_says_35 : decode cX6_says 35 = .ok (.bipush (-3), 2) := o_16 (bg_dX6_says_27 8 16 rfl) (bg_dX6_says_27 9 253 rfl) (by decide +kernel)
theorem dX6_says_37 : decode cX6_says 37 = .ok (.invokevirtual 70, 3) := o_182 (bg_dX6_says_27 10 182 rfl) (bg_dX6_says_27 11 0 rfl) (bg_dX6_says_27 12 70 rfl)
theorem dX6_says_40 : decode cX6_says 40 = .ok (.ireturn, 1) := o_172 (bg_dX6_says_27 13 172 rfl)
theorem dX6_says_41 : decode cX6_says 41 = .ok (.aload_n 0, 1) := o_42 (bg_dX6_says_27 14 42 rfl)
theorem dX6_says_42 : decode cX6_says 42 = .ok (.getfield 35, 3) := o_180 (bg_dX6_says_27 15 180 rfl) (bg_dX6_says_27 16 0 rfl) (bg_dX6_says_27 17 35 rfl)
theorem dX6_says_45 : decode cX6_says 45 = .ok (.getfield 109, 3) := o_180 (bg_dX6_says_27 18 180 rfl) (bg_dX6_says_27 19 0 rfl) (bg_dX6_says_27 20 109 rfl)
theorem dX6_says_48 : decode cX6_says 48 = .ok (.iload_n 1, 1) := o_27 (bg_dX6_says_27 21 27 rfl)
theorem dX6_says_49 : decode cX6_says 49 = .ok (.iaload, 1) := o_46 (bg_dX6_says_27 22 46 rfl)
theorem dX6_says_50 : decode cX6_says 50 = .ok (.bipush 10, 2) := o_16 (bg_dX6_says_27 23 16 rfl) (bg_dX6_says_27 24 10 rfl) (by decide +kernel)
theorem dX6_says_52 : decode cX6_says 52 = .ok (.isub, 1) := o_100 (bg_dX6_says_27 25 100 rfl)
theorem bg_dX6_says_53 : bysAt cX6_says 53 [62, 42, 29, 182, 0, 112, 154, 0, 10, 42, 16, 252, 182, 0, 70, 172, 42, 180, 0, 10, 29, 28, 182, 0, 119] := bysAt_of (by decide +kernel)
theorem dX6_says_53 : decode cX6_says 53 = .ok (.istore_n 3, 1) := o_62 (bg_dX6_says_53 0 62 rfl)
theorem dX6_says_54 : decode cX6_says 54 = .ok (.aload_n 0, 1) := o_42 (bg_dX6_says_53 1 42 rfl)
theorem dX6_says_55 : decode cX6_says 55 = .ok (.iload_n 3, 1) := o_29 (bg_dX6_says_53 2 29 rfl)
theorem dX6_says_56 : decode cX6_says 56 = .ok (.invokevirtual 112, 3) := o_182 (bg_dX6_says_53 3 182 rfl) (bg_dX6_says_53 4 0 rfl) (bg_dX6_says_53 5 112 rfl)
theorem dX6_says_59 : decode cX6_says 59 = .ok (.ifCond .ne 10, 3) := o_154 (bg_dX6_says_53 6 154 rfl) (bg_dX6_says_53 7 0 rfl) (bg_dX6_says_53 8 10 rfl) (by decide +kernel)
theorem dX6_says_62 : decode cX6_says 62 = .ok (.aload_n 0, 1) := o_42 (bg_dX6_says_53 9 42 rfl)
theorem dX6_says_63 : decode cX6_says 63 = .ok (.bipush (-4), 2) := o_16 (bg_dX6_says_53 10 16 rfl) (bg_dX6_says_53 11 252 rfl) (by decide +kernel)
theorem dX6_says_65 : decode cX6_says 65 = .ok (.invokevirtual 70, 3) := o_182 (bg_dX6_says_53 12 182 rfl) (bg_dX6_says_53 13 0 rfl) (bg_dX6_says_53 14 70 rfl)
theorem dX6_says_68 : decode cX6_says 68 = .ok (.ireturn, 1) := o_172 (bg_dX6_says_53 15 172 rfl)
theorem dX6_says_69 : decode cX6_says 69 = .ok (.aload_n 0, 1) := o_42 (bg_dX6_says_53 16 42 rfl)
theorem dX6_says_70 : decode cX6_says 70 = .ok (.getfield 10, 3) := o_180 (bg_dX6_says_53 17 180 rfl) (bg_dX6_says_53 18 0 rfl) (bg_dX6_says_53 19 10 rfl)
theorem dX6_says_73 : decode cX6_says 73 = .ok (.iload_n 3, 1) := o_29 (bg_dX6_says_53 20 29 rfl)
theorem dX6_says_74 : decode cX6_says 74 = .ok (.iload_n 2, 1) := o_28 (bg_dX6_says_53 21 28 rfl)
theorem dX6_says_75 : decode cX6_says 75 = .ok (.invokevirtual 119, 3) := o_182 (bg_dX6_says_53 22 182 rfl) (bg_dX6_says_53 23 0 rfl) (bg_dX6_says_53 24 119 rfl)
theorem bg_dX6_says_78 : bysAt cX6_says 78 [154, 0, 10, 42, 16, 253, 182, 0, 70, 172, 42, 29, 28, 182, 0, 122, 172] := bysAt_of (by decide +kernel)
theorem dX6_says_78 : decode cX6_says 78 = .ok (.ifCond .ne 10, 3) := o_154 (bg_dX6_says_78 0 154 rfl) (bg_dX6_says_78 1 0 rfl) (bg_dX6_says_78 2 10 rfl) (by decide +kernel)
theorem dX6_says_81 : decode cX6_says 81 = .ok (.aload_n 0, 1) := o_42 (bg_dX6_says_78 3 42 rfl)
theorem dX6_says_82 : decode cX6_says 82 = .ok (.bipush (-3), 2) := o_16 (bg_dX6_says_78 4 16 rfl) (bg_dX6_says_78 5 253 rfl) (by decide +kernel)
theorem dX6_says_84 : decode cX6_says 84 = .ok (.invokevirtual 70, 3) := o_182 (bg_dX6_says_78 6 182 rfl) (bg_dX6_says_78 7 0 rfl) (bg_dX6_says_78 8 70 rfl)
theorem dX6_says_87 : decode cX6_says 87 = .ok (.ireturn, 1) := o_172 (bg_dX6_says_78 9 172 rfl)
theorem dX6_says_88 : decode cX6_says 88 = .ok (.aload_n 0, 1) := o_42 (bg_dX6_says_78 10 42 rfl)
theorem dX6_says_89 : decode cX6_says 89 = .ok (.iload_n 3, 1) := o_29 (bg_dX6_says_78 11 29 rfl)
theorem dX6_says_90 : decode cX6_says 90 = .ok (.iload_n 2, 1) := o_28 (bg_dX6_says_78 12 28 rfl)
theorem dX6_says_91 : decode cX6_says 91 = .ok (.invokevirtual 122, 3) := o_182 (bg_dX6_says_78 13 182 rfl) (bg_dX6_says_78 14 0 rfl) (bg_dX6_says_78 15 122 rfl)
theorem dX6_says_94 : decode cX6_says 94 = .ok (.ireturn, 1) := o_172 (bg_dX6_says_78 16 172 rfl)
theorem bg_dX6_set_0 : bysAt cX6_set 0 [42, 27, 182, 0, 78, 54, 5, 21, 5, 153, 0, 10, 42, 21, 5, 182, 0, 70, 172, 28, 3, 42, 180, 0, 35] := bysAt_of (by decide +kernel)
theorem dX6_set_0 : decode cX6_set 0 = .ok (.aload_n 0, 1) := o_42 (bg_dX6_set_0 0 42 rfl)
theorem dX6_set_1 : decode cX6_set 1 = .ok (.iload_n 1, 1) := o_27 (bg_dX6_set_0 1 27 rfl)
theorem dX6_set_2 : decode cX6_set 2 = .ok (.invokevirtual 78, 3) := o_182 (bg_dX6_set_0 2 182 rfl) (bg_dX6_set_0 3 0 rfl) (bg_dX6_set_0 4 78 rfl)
theorem dX6_set_5 : decode cX6_set 5 = .ok (.istore 5, 2) := o_54 (bg_dX6_set_0 5 54 rfl) (bg_dX6_set_0 6 5 rfl)
theorem dX6_set_7 : decode cX6_set 7 = .ok (.iload 5, 2) := o_21 (bg_dX6_set_0 7 21 rfl) (bg_dX6_set_0 8 5 rfl)
theorem dX6_set_9 : decode cX6_set 9 = .ok (.ifCond .eq 10, 3) := o_153 (bg_dX6_set_0 9 153 rfl) (bg_dX6_set_0 10 0 rfl) (bg_dX6_set_0 11 10 rfl) (by decide +kernel)
theorem dX6_set_12 : decode cX6_set 12 = .ok (.aload_n 0, 1) := o_42 (bg_dX6_set_0 12 42 rfl)
theorem dX6_set_13 : decode cX6_set 13 = .ok (.iload 5, 2) := o_21 (bg_dX6_set_0 13 21 rfl) (bg_dX6_set_0 14 5 rfl)
theorem dX6_set_15 : decode cX6_set 15 = .ok (.invokevirtual 70, 3) := o_182 (bg_dX6_set_0 15 182 rfl) (bg_dX6_set_0 16 0 rfl) (bg_dX6_set_0 17 70 rfl)
theorem dX6_set_18 : decode cX6_set 18 = .ok (.ireturn, 1) := o_172 (bg_dX6_set_0 18 172 rfl)
theorem dX6_set_19 : decode cX6_set 19 = .ok (.iload_n 2, 1) := o_28 (bg_dX6_set_0 19 28 rfl)
theorem dX6_set_20 : decode cX6_set 20 = .ok (.iconst 0, 1) := o_3 (bg_dX6_set_0 20 3 rfl)
theorem dX6_set_21 : decode cX6_set 21 = .ok (.aload_n 0, 1) := o_42 (bg_dX6_set_0 21 42 rfl)
theorem dX6_set_22 : decode cX6_set 22 = .ok (.getfield 35, 3) := o_180 (bg_dX6_set_0 22 180 rfl) (bg_dX6_set_0 23 0 rfl) (bg_dX6_set_0 24 35 rfl)
theorem bg_dX6_set_25 : bysAt cX6_set 25 [180, 0, 81, 27, 46, 4, 100, 184, 0, 66, 154, 0, 10, 42, 16, 254, 182, 0, 70, 172, 42, 180, 0, 35, 27] := bysAt_of (by decide +kernel)
theorem dX6_set_25 : decode cX6_set 25 = .ok (.getfield 81, 3) := o_180 (bg_dX6_set_25 0 180 rfl) (bg_dX6_set_25 1 0 rfl) (bg_dX6_set_25 2 81 rfl)
theorem dX6_set_28 : decode cX6_set 28 = .ok (.iload_n 1, 1) := o_27 (bg_dX6_set_25 3 27 rfl)
theorem dX6_set_29 : decode cX6_set 29 = .ok (.iaload, 1) := o_46 (bg_dX6_set_25 4 46 rfl)
theorem dX6_set_30 : decode cX6_set 30 = .ok (.iconst 1, 1) := o_4 (bg_dX6_set_25 5 4 rfl)
theorem dX6_set_31 : decode cX6_set 31 = .ok (.isub, 1) := o_100 (bg_dX6_set_25 6 100 rfl)
theorem dX6_set_32 : decode cX6_set 32 = .ok (.invokestatic 66, 3) := o_184 (bg_dX6_set_25 7 184 rfl) (bg_dX6_set_25 8 0 rfl) (bg_dX6_set_25 9 66 rfl)
theorem dX6_set_35 : decode cX6_set 35 = .ok (.ifCond .ne 10, 3) := o_154 (bg_dX6_set_25 10 154 rfl) (bg_dX6_set_25 11 0 rfl) (bg_dX6_set_25 12 10 rfl) (by decide +kernel)
theorem dX6_set_38 : decode cX6_set 38 = .ok (.aload_n 0, 1) := o_42 (bg_dX6_set_25 13 42 rfl)
theorem dX6_set_39 : decode cX6_set 39 = .ok (.bipush (-2), 2) := o_16 (bg_dX6_set_25 14 16 rfl) (bg_dX6_set_25 15 254 rfl) (by decide +kernel)
theorem dX6_set_41 : decode cX6_set 41 = .ok (.invokevirtual 70, 3) := o_182 (bg_dX6_set_25 16 182 rfl) (bg_dX6_set_25 17 0 rfl) (bg_dX6_set_25 18 70 rfl)
theorem dX6_set_44 : decode cX6_set 44 = .ok (.ireturn, 1) := o_172 (bg_dX6_set_25 19 172 rfl)
theorem dX6_set_45 : decode cX6_set 45 = .ok (.aload_n 0, 1) := o_42 (bg_dX6_set_25 20 42 rfl)
theorem dX6_set_46 : decode cX6_set 46 = .ok (.getfield 35, 3) := o_180 (bg_dX6_set_25 21 180 rfl) (bg_dX6_set_25 22 0 rfl) (bg_dX6_set_25 23 35 rfl)
theorem dX6_set_49 : decode cX6_set 49 = .ok (.iload_n 1, 1) := o_27 (bg_dX6_set_25 24 27 rfl)
theorem bg_dX6_set_50 : bysAt cX6_set 50 [28, 33, 182, 0, 84, 4, 172] := bysAt_of (by decide +kernel)
theorem dX6_set_50 : decode cX6_set 50 = .ok (.iload_n 2, 1) := o_28 (bg_dX6_set_50 0 28 rfl)
theorem dX6_set_51 : decode cX6_set 51 = .ok (.lload_n 3, 1) := o_33 (bg_dX6_set_50 1 33 rfl)
theorem dX6_set_52 : decode cX6_set 52 = .ok (.invokevirtual 84, 3) := o_182 (bg_dX6_set_50 2 182 rfl) (bg_dX6_set_50 3 0 rfl) (bg_dX6_set_50 4 84 rfl)
theorem dX6_set_55 : decode cX6_set 55 = .ok (.iconst 1, 1) := o_4 (bg_dX6_set_50 5 4 rfl)
theorem dX6_set_56 : decode cX6_set 56 = .ok (.ireturn, 1) := o_172 (bg_dX6_set_50 6 172 rfl)
theorem bg_dX6_show_0 : bysAt cX6_show 0 [27, 184, 0, 62, 153, 0, 16, 28, 2, 159, 0, 18, 42, 28, 182, 0, 112, 154, 0, 10, 42, 16, 254, 182, 0, 70, 172] := bysAt_of (by decide +kernel)
theorem dX6_show_0 : decode cX6_show 0 = .ok (.iload_n 1, 1) := o_27 (bg_dX6_show_0 0 27 rfl)
theorem dX6_show_1 : decode cX6_show 1 = .ok (.invokestatic 62, 3) := o_184 (bg_dX6_show_0 1 184 rfl) (bg_dX6_show_0 2 0 rfl) (bg_dX6_show_0 3 62 rfl)
theorem dX6_show_4 : decode cX6_show 4 = .ok (.ifCond .eq 16, 3) := o_153 (bg_dX6_show_0 4 153 rfl) (bg_dX6_show_0 5 0 rfl) (bg_dX6_show_0 6 16 rfl) (by decide +kernel)
theorem dX6_show_7 : decode cX6_show 7 = .ok (.iload_n 2, 1) := o_28 (bg_dX6_show_0 7 28 rfl)
theorem dX6_show_8 : decode cX6_show 8 = .ok (.iconst (-1), 1) := o_2 (bg_dX6_show_0 8 2 rfl)
theorem dX6_show_9 : decode cX6_show 9 = .ok (.if_icmp .eq 18, 3) := o_159 (bg_dX6_show_0 9 159 rfl) (bg_dX6_show_0 10 0 rfl) (bg_dX6_show_0 11 18 rfl) (by decide +kernel)
theorem dX6_show_12 : decode cX6_show 12 = .ok (.aload_n 0, 1) := o_42 (bg_dX6_show_0 12 42 rfl)
theorem dX6_show_13 : decode cX6_show 13 = .ok (.iload_n 2, 1) := o_28 (bg_dX6_show_0 13 28 rfl)
theorem dX6_show_14 : decode cX6_show 14 = .ok (.invokevirtual 112, 3) := o_182 (bg_dX6_show_0 14 182 rfl) (bg_dX6_show_0 15 0 rfl) (bg_dX6_show_0 16 112 rfl)
theorem dX6_show_17 : decode cX6_show 17 = .ok (.ifCond .ne 10, 3) := o_154 (bg_dX6_show_0 17 154 rfl) (bg_dX6_show_0 18 0 rfl) (bg_dX6_show_0 19 10 rfl) (by decide +kernel)
theorem dX6_show_20 : decode cX6_show 20 = .ok (.aload_n 0, 1) := o_42 (bg_dX6_show_0 20 42 rfl)
theorem dX6_show_21 : decode cX6_show 21 = .ok (.bipush (-2), 2) := o_16 (bg_dX6_show_0 21 16 rfl) (bg_dX6_show_0 22 254 rfl) (by decide +kernel)
theorem dX6_show_23 : decode cX6_show 23 = .ok (.invokevirtual 70, 3) := o_182 (bg_dX6_show_0 23 182 rfl) (bg_dX6_show_0 24 0 rfl) (bg_dX6_show_0 25 70 rfl)
theorem dX6_show_26 : decode cX6_show 26 = .ok (.ireturn, 1) := o_172 (bg_dX6_show_0 26 172 rfl)
theorem bg_dX6_show_27 : bysAt cX6_show 27 [42, 180, 0, 35, 27, 28, 182, 0, 115, 4, 172] := bysAt_of (by decide +kernel)
theorem dX6_show_27 : decode cX6_show 27 = .ok (.aload_n 0, 1) := o_42 (bg_dX6_show_27 0 42 rfl)
theorem dX6_show_28 : decode cX6_show 28 = .ok (.getfield 35, 3) := o_180 (bg_dX6_show_27 1 180 rfl) (bg_dX6_show_27 2 0 rfl) (bg_dX6_show_27 3 35 rfl)
theorem dX6_show_31 : decode cX6_show 31 = .ok (.iload_n 1, 1) := o_27 (bg_dX6_show_27 4 27 rfl)
theorem dX6_show_32 : decode cX6_show 32 = .ok (.iload_n 2, 1) := o_28 (bg_dX6_show_27 5 28 rfl)
theorem dX6_show_33 : decode cX6_show 33 = .ok (.invokevirtual 115, 3) := o_182 (bg_dX6_show_27 6 182 rfl) (bg_dX6_show_27 7 0 rfl) (bg_dX6_show_27 8 115 rfl)
theorem dX6_show_36 : decode cX6_show 36 = .ok (.iconst 1, 1) := o_4 (bg_dX6_show_27 9 4 rfl)
theorem dX6_show_37 : decode cX6_show 37 = .ok (.ireturn, 1) := o_172 (bg_dX6_show_27 10 172 rfl)
theorem bg_dX6_shut_0 : bysAt cX6_shut 0 [42, 27, 182, 0, 136, 154, 0, 10, 42, 16, 254, 182, 0, 70, 172, 28, 153, 0, 7, 4, 167, 0, 4, 3, 62] := bysAt_of (by decide +kernel)
theorem dX6_shut_0 : decode cX6_shut 0 = .ok (.aload_n 0, 1) := o_42 (bg_dX6_shut_0 0 42 rfl)
theorem dX6_shut_1 : decode cX6_shut 1 = .ok (.iload_n 1, 1) := o_27 (bg_dX6_shut_0 1 27 rfl)
theorem dX6_shut_2 : decode cX6_shut 2 = .ok (.invokevirtual 136, 3) := o_182 (bg_dX6_shut_0 2 182 rfl) (bg_dX6_shut_0 3 0 rfl) (bg_dX6_shut_0 4 136 rfl)
theorem dX6_shut_5 : decode cX6_shut 5 = .ok (.ifCond .ne 10, 3) := o_154 (bg_dX6_shut_0 5 154 rfl) (bg_dX6_shut_0 6 0 rfl) (bg_dX6_shut_0 7 10 rfl) (by decide +kernel)
theorem dX6_shut_8 : decode cX6_shut 8 = .ok (.aload_n 0, 1) := o_42 (bg_dX6_shut_0 8 42 rfl)
theorem dX6_shut_9 : decode cX6_shut 9 = .ok (.bipush (-2), 2) := o_16 (bg_dX6_shut_0 9 16 rfl) (bg_dX6_shut_0 10 254 rfl) (by decide +kernel)
theorem dX6_shut_11 : decode cX6_shut 11 = .ok (.invokevirtual 70, 3) := o_182 (bg_dX6_shut_0 11 182 rfl) (bg_dX6_shut_0 12 0 rfl) (bg_dX6_shut_0 13 70 rfl)
theorem dX6_shut_14 : decode cX6_shut 14 = .ok (.ireturn, 1) := o_172 (bg_dX6_shut_0 14 172 rfl)
theorem dX6_shut_15 : decode cX6_shut 15 = .ok (.iload_n 2, 1) := o_28 (bg_dX6_shut_0 15 28 rfl)
theorem dX6_shut_16 : decode cX6_shut 16 = .ok (.ifCond .eq 7, 3) := o_153 (bg_dX6_shut_0 16 153 rfl) (bg_dX6_shut_0 17 0 rfl) (bg_dX6_shut_0 18 7 rfl) (by decide +kernel)
theorem dX6_shut_19 : decode cX6_shut 19 = .ok (.iconst 1, 1) := o_4 (bg_dX6_shut_0 19 4 rfl)
theorem dX6_shut_20 : decode cX6_shut 20 = .ok (.goto 4, 3) := o_167 (bg_dX6_shut_0 20 167 rfl) (bg_dX6_shut_0 21 0 rfl) (bg_dX6_shut_0 22 4 rfl) (by decide +kernel)
theorem dX6_shut_23 : decode cX6_shut 23 = .ok (.iconst 0, 1) := o_3 (bg_dX6_shut_0 23 3 rfl)
theorem dX6_shut_24 : decode cX6_shut 24 = .ok (.istore_n 3, 1) := o_62 (bg_dX6_shut_0 24 62 rfl)
theorem bg_dX6_shut_25 : bysAt cX6_shut 25 [42, 180, 0, 10, 27, 16, 6, 182, 0, 165, 29, 160, 0, 5, 3, 172, 42, 180, 0, 10, 180, 0, 168, 27, 16, 7] := bysAt_of (by decide +kernel)
theorem dX6_shut_25 : decode cX6_shut 25 = .ok (.aload_n 0, 1) := o_42 (bg_dX6_shut_25 0 42 rfl)
theorem dX6_shut_26 : decode cX6_shut 26 = .ok (.getfield 10, 3) := o_180 (bg_dX6_shut_25 1 180 rfl) (bg_dX6_shut_25 2 0 rfl) (bg_dX6_shut_25 3 10 rfl)
theorem dX6_shut_29 : decode cX6_shut 29 = .ok (.iload_n 1, 1) := o_27 (bg_dX6_shut_25 4 27 rfl)
theorem dX6_shut_30 : decode cX6_shut 30 = .ok (.bipush 6, 2) := o_16 (bg_dX6_shut_25 5 16 rfl) (bg_dX6_shut_25 6 6 rfl) (by decide +kernel)
theorem dX6_shut_32 : decode cX6_shut 32 = .ok (.invokevirtual 165, 3) := o_182 (bg_dX6_shut_25 7 182 rfl) (bg_dX6_shut_25 8 0 rfl) (bg_dX6_shut_25 9 165 rfl)
theorem dX6_shut_35 : decode cX6_shut 35 = .ok (.iload_n 3, 1) := o_29 (bg_dX6_shut_25 10 29 rfl)
theorem dX6_shut_36 : decode cX6_shut 36 = .ok (.if_icmp .ne 5, 3) := o_160 (bg_dX6_shut_25 11 160 rfl) (bg_dX6_shut_25 12 0 rfl) (bg_dX6_shut_25 13 5 rfl) (by decide +kernel)
theorem dX6_shut_39 : decode cX6_shut 39 = .ok (.iconst 0, 1) := o_3 (bg_dX6_shut_25 14 3 rfl)
theorem dX6_shut_40 : decode cX6_shut 40 = .ok (.ireturn, 1) := o_172 (bg_dX6_shut_25 15 172 rfl)
theorem dX6_shut_41 : decode cX6_shut 41 = .ok (.aload_n 0, 1) := o_42 (bg_dX6_shut_25 16 42 rfl)
theorem dX6_shut_42 : decode cX6_shut 42 = .ok (.getfield 10, 3) := o_180 (bg_dX6_shut_25 17 180 rfl) (bg_dX6_shut_25 18 0 rfl) (bg_dX6_shut_25 19 10 rfl)
theorem dX6_shut_45 : decode cX6_shut 45 = .ok (.getfield 168, 3) := o_180 (bg_dX6_shut_25 20 180 rfl) (bg_dX6_shut_25 21 0 rfl) (bg_dX6_shut_25 22 168 rfl)
theorem dX6_shut_48 : decode cX6_shut 48 = .ok (.iload_n 1, 1) := o_27 (bg_dX6_shut_25 23 27 rfl)
theorem dX6_shut_49 : decode cX6_shut 49 = .ok (.bipush 7, 2) := o_16 (bg_dX6_shut_25 24 16 rfl) (bg_dX6_shut_25 25 7 rfl) (by decide +kernel)
theorem bg_dX6_shut_51 : bysAt cX6_shut 51 [104, 16, 6, 96, 29, 79, 4, 172] := bysAt_of (by decide +kernel)
theorem dX6_shut_51 : decode cX6_shut 51 = .ok (.imul, 1) := o_104 (bg_dX6_shut_51 0 104 rfl)
theorem dX6_shut_52 : decode cX6_shut 52 = .ok (.bipush 6, 2) := o_16 (bg_dX6_shut_51 1 16 rfl) (bg_dX6_shut_51 2 6 rfl) (by decide +kernel)
theorem dX6_shut_54 : decode cX6_shut 54 = .ok (.iadd, 1) := o_96 (bg_dX6_shut_51 3 96 rfl)
theorem dX6_shut_55 : decode cX6_shut 55 = .ok (.iload_n 3, 1) := o_29 (bg_dX6_shut_51 4 29 rfl)
theorem dX6_shut_56 : decode cX6_shut 56 = .ok (.iastore, 1) := o_79 (bg_dX6_shut_51 5 79 rfl)
theorem dX6_shut_57 : decode cX6_shut 57 = .ok (.iconst 1, 1) := o_4 (bg_dX6_shut_51 6 4 rfl)
theorem dX6_shut_58 : decode cX6_shut 58 = .ok (.ireturn, 1) := o_172 (bg_dX6_shut_51 7 172 rfl)
theorem bg_dX6_stand_0 : bysAt cX6_stand 0 [42, 27, 182, 0, 112, 153, 0, 12, 28, 3, 5, 184, 0, 66, 154, 0, 10, 42, 16, 254, 182, 0, 70, 172, 16, 7] := bysAt_of (by decide +kernel)
theorem dX6_stand_0 : decode cX6_stand 0 = .ok (.aload_n 0, 1) := o_42 (bg_dX6_stand_0 0 42 rfl)
theorem dX6_stand_1 : decode cX6_stand 1 = .ok (.iload_n 1, 1) := o_27 (bg_dX6_stand_0 1 27 rfl)
theorem dX6_stand_2 : decode cX6_stand 2 = .ok (.invokevirtual 112, 3) := o_182 (bg_dX6_stand_0 2 182 rfl) (bg_dX6_stand_0 3 0 rfl) (bg_dX6_stand_0 4 112 rfl)
theorem dX6_stand_5 : decode cX6_stand 5 = .ok (.ifCond .eq 12, 3) := o_153 (bg_dX6_stand_0 5 153 rfl) (bg_dX6_stand_0 6 0 rfl) (bg_dX6_stand_0 7 12 rfl) (by decide +kernel)
theorem dX6_stand_8 : decode cX6_stand 8 = .ok (.iload_n 2, 1) := o_28 (bg_dX6_stand_0 8 28 rfl)
theorem dX6_stand_9 : decode cX6_stand 9 = .ok (.iconst 0, 1) := o_3 (bg_dX6_stand_0 9 3 rfl)
theorem dX6_stand_10 : decode cX6_stand 10 = .ok (.iconst 2, 1) := o_5 (bg_dX6_stand_0 10 5 rfl)
theorem dX6_stand_11 : decode cX6_stand 11 = .ok (.invokestatic 66, 3) := o_184 (bg_dX6_stand_0 11 184 rfl) (bg_dX6_stand_0 12 0 rfl) (bg_dX6_stand_0 13 66 rfl)
theorem dX6_stand_14 : decode cX6_stand 14 = .ok (.ifCond .ne 10, 3) := o_154 (bg_dX6_stand_0 14 154 rfl) (bg_dX6_stand_0 15 0 rfl) (bg_dX6_stand_0 16 10 rfl) (by decide +kernel)
theorem dX6_stand_17 : decode cX6_stand 17 = .ok (.aload_n 0, 1) := o_42 (bg_dX6_stand_0 17 42 rfl)
theorem dX6_stand_18 : decode cX6_stand 18 = .ok (.bipush (-2), 2) := o_16 (bg_dX6_stand_0 18 16 rfl) (bg_dX6_stand_0 19 254 rfl) (by decide +kernel)
theorem dX6_stand_20 : decode cX6_stand 20 = .ok (.invokevirtual 70, 3) := o_182 (bg_dX6_stand_0 20 182 rfl) (bg_dX6_stand_0 21 0 rfl) (bg_dX6_stand_0 22 70 rfl)
theorem dX6_stand_23 : decode cX6_stand 23 = .ok (.ireturn, 1) := o_172 (bg_dX6_stand_0 23 172 rfl)
theorem dX6_stand_24 : decode cX6_stand 24 = .ok (.bipush 7, 2) := o_16 (bg_dX6_stand_0 24 16 rfl) (bg_dX6_stand_0 25 7 rfl) (by decide +kernel)
theorem bg_dX6_stand_26 : bysAt cX6_stand 26 [28, 96, 54, 4, 21, 4, 16, 7, 160, 0, 27, 29, 153, 0, 23, 42, 180, 0, 10, 27, 4, 182, 0, 159, 6] := bysAt_of (by decide +kernel)
theorem dX6_stand_26 : decode cX6_stand 26 = .ok (.iload_n 2, 1) := o_28 (bg_dX6_stand_26 0 28 rfl)
theorem dX6_stand_27 : decode cX6_stand 27 = .ok (.iadd, 1) := o_96 (bg_dX6_stand_26 1 96 rfl)
theorem dX6_stand_28 : decode cX6_stand 28 = .ok (.istore 4, 2) := o_54 (bg_dX6_stand_26 2 54 rfl) (bg_dX6_stand_26 3 4 rfl)
theorem dX6_stand_30 : decode cX6_stand 30 = .ok (.iload 4, 2) := o_21 (bg_dX6_stand_26 4 21 rfl) (bg_dX6_stand_26 5 4 rfl)
theorem dX6_stand_32 : decode cX6_stand 32 = .ok (.bipush 7, 2) := o_16 (bg_dX6_stand_26 6 16 rfl) (bg_dX6_stand_26 7 7 rfl) (by decide +kernel)
theorem dX6_stand_34 : decode cX6_stand 34 = .ok (.if_icmp .ne 27, 3) := o_160 (bg_dX6_stand_26 8 160 rfl) (bg_dX6_stand_26 9 0 rfl) (bg_dX6_stand_26 10 27 rfl) (by decide +kernel)
theorem dX6_stand_37 : decode cX6_stand 37 = .ok (.iload_n 3, 1) := o_29 (bg_dX6_stand_26 11 29 rfl)
theorem dX6_stand_38 : decode cX6_stand 38 = .ok (.ifCond .eq 23, 3) := o_153 (bg_dX6_stand_26 12 153 rfl) (bg_dX6_stand_26 13 0 rfl) (bg_dX6_stand_26 14 23 rfl) (by decide +kernel)
theorem dX6_stand_41 : decode cX6_stand 41 = .ok (.aload_n 0, 1) := o_42 (bg_dX6_stand_26 15 42 rfl)
theorem dX6_stand_42 : decode cX6_stand 42 = .ok (.getfield 10, 3) := o_180 (bg_dX6_stand_26 16 180 rfl) (bg_dX6_stand_26 17 0 rfl) (bg_dX6_stand_26 18 10 rfl)
theorem dX6_stand_45 : decode cX6_stand 45 = .ok (.iload_n 1, 1) := o_27 (bg_dX6_stand_26 19 27 rfl)
theorem dX6_stand_46 : decode cX6_stand 46 = .ok (.iconst 1, 1) := o_4 (bg_dX6_stand_26 20 4 rfl)
theorem dX6_stand_47 : decode cX6_stand 47 = .ok (.invokevirtual 159, 3) := o_182 (bg_dX6_stand_26 21 182 rfl) (bg_dX6_stand_26 22 0 rfl) (bg_dX6_stand_26 23 159 rfl)
theorem dX6_stand_50 : decode cX6_stand 50 = .ok (.iconst 3, 1) := o_6 (bg_dX6_stand_26 24 6 rfl)
theorem bg_dX6_stand_51 : bysAt cX6_stand 51 [160, 0, 10, 42, 16, 251, 182, 0, 70, 172, 29, 153, 0, 7, 4, 167, 0, 4, 3, 54, 5, 42, 180, 0, 10, 27] := bysAt_of (by decide +kernel)
theorem dX6_stand_51 : decode cX6_stand 51 = .ok (.if_icmp .ne 10, 3) := o_160 (bg_dX6_stand_51 0 160 rfl) (bg_dX6_stand_51 1 0 rfl) (bg_dX6_stand_51 2 10 rfl) (by decide +kernel)
theorem dX6_stand_54 : decode cX6_stand 54 = .ok (.aload_n 0, 1) := o_42 (bg_dX6_stand_51 3 42 rfl)
theorem dX6_stand_55 : decode cX6_stand 55 = .ok (.bipush (-5), 2) := o_16 (bg_dX6_stand_51 4 16 rfl) (bg_dX6_stand_51 5 251 rfl) (by decide +kernel)
theorem dX6_stand_57 : decode cX6_stand 57 = .ok (.invokevirtual 70, 3) := o_182 (bg_dX6_stand_51 6 182 rfl) (bg_dX6_stand_51 7 0 rfl) (bg_dX6_stand_51 8 70 rfl)
theorem dX6_stand_60 : decode cX6_stand 60 = .ok (.ireturn, 1) := o_172 (bg_dX6_stand_51 9 172 rfl)
theorem dX6_stand_61 : decode cX6_stand 61 = .ok (.iload_n 3, 1) := o_29 (bg_dX6_stand_51 10 29 rfl)
theorem dX6_stand_62 : decode cX6_stand 62 = .ok (.ifCond .eq 7, 3) := o_153 (bg_dX6_stand_51 11 153 rfl) (bg_dX6_stand_51 12 0 rfl) (bg_dX6_stand_51 13 7 rfl) (by decide +kernel)
theorem dX6_stand_65 : decode cX6_stand 65 = .ok (.iconst 1, 1) := o_4 (bg_dX6_stand_51 14 4 rfl)
theorem dX6_stand_66 : decode cX6_stand 66 = .ok (.goto 4, 3) := o_167 (bg_dX6_stand_51 15 167 rfl) (bg_dX6_stand_51 16 0 rfl) (bg_dX6_stand_51 17 4 rfl) (by decide +kernel)
theorem dX6_stand_69 : decode cX6_stand 69 = .ok (.iconst 0, 1) := o_3 (bg_dX6_stand_51 18 3 rfl)
theorem dX6_stand_70 : decode cX6_stand 70 = .ok (.istore 5, 2) := o_54 (bg_dX6_stand_51 19 54 rfl) (bg_dX6_stand_51 20 5 rfl)
theorem dX6_stand_72 : decode cX6_stand 72 = .ok (.aload_n 0, 1) := o_42 (bg_dX6_stand_51 21 42 rfl)
theorem dX6_stand_73 : decode cX6_stand 73 = .ok (.getfield 10, 3) := o_180 (bg_dX6_stand_51 22 180 rfl) (bg_dX6_stand_51 23 0 rfl) (bg_dX6_stand_51 24 10 rfl)
theorem dX6_stand_76 : decode cX6_stand 76 = .ok (.iload_n 1, 1) := o_27 (bg_dX6_stand_51 25 27 rfl)
theorem bg_dX6_stand_77 : bysAt cX6_stand 77 [21, 4, 182, 0, 159, 21, 5, 160, 0, 5, 3, 172, 42, 180, 0, 10, 27, 21, 4, 21, 5, 182, 0, 162, 4, 172] := bysAt_of (by decide +kernel)
theorem dX6_stand_77 : decode cX6_stand 77 = .ok (.iload 4, 2) := o_21 (bg_dX6_stand_77 0 21 rfl) (bg_dX6_stand_77 1 4 rfl)
theorem dX6_stand_79 : decode cX6_stand 79 = .ok (.invokevirtual 159, 3) := o_182 (bg_dX6_stand_77 2 182 rfl) (bg_dX6_stand_77 3 0 rfl) (bg_dX6_stand_77 4 159 rfl)
theorem dX6_stand_82 : decode cX6_stand 82 = .ok (.iload 5, 2) := o_21 (bg_dX6_stand_77 5 21 rfl) (bg_dX6_stand_77 6 5 rfl)
theorem dX6_stand_84 : decode cX6_stand 84 = .ok (.if_icmp .ne 5, 3) := o_160 (bg_dX6_stand_77 7 160 rfl) (bg_dX6_stand_77 8 0 rfl) (bg_dX6_stand_77 9 5 rfl) (by decide +kernel)
theorem dX6_stand_87 : decode cX6_stand 87 = .ok (.iconst 0, 1) := o_3 (bg_dX6_stand_77 10 3 rfl)
theorem dX6_stand_88 : decode cX6_stand 88 = .ok (.ireturn, 1) := o_172 (bg_dX6_stand_77 11 172 rfl)
theorem dX6_stand_89 : decode cX6_stand 89 = .ok (.aload_n 0, 1) := o_42 (bg_dX6_stand_77 12 42 rfl)
theorem dX6_stand_90 : decode cX6_stand 90 = .ok (.getfield 10, 3) := o_180 (bg_dX6_stand_77 13 180 rfl) (bg_dX6_stand_77 14 0 rfl) (bg_dX6_stand_77 15 10 rfl)
theorem dX6_stand_93 : decode cX6_stand 93 = .ok (.iload_n 1, 1) := o_27 (bg_dX6_stand_77 16 27 rfl)
theorem dX6_stand_94 : decode cX6_stand 94 = .ok (.iload 4, 2) := o_21 (bg_dX6_stand_77 17 21 rfl) (bg_dX6_stand_77 18 4 rfl)
theorem dX6_stand_96 : decode cX6_stand 96 = .ok (.iload 5, 2) := o_21 (bg_dX6_stand_77 19 21 rfl) (bg_dX6_stand_77 20 5 rfl)
theorem dX6_stand_98 : decode cX6_stand 98 = .ok (.invokevirtual 162, 3) := o_182 (bg_dX6_stand_77 21 182 rfl) (bg_dX6_stand_77 22 0 rfl) (bg_dX6_stand_77 23 162 rfl)
theorem dX6_stand_101 : decode cX6_stand 101 = .ok (.iconst 1, 1) := o_4 (bg_dX6_stand_77 24 4 rfl)
theorem dX6_stand_102 : decode cX6_stand 102 = .ok (.ireturn, 1) := o_172 (bg_dX6_stand_77 25 172 rfl)
theorem bg_dX6_strain_0 : bysAt cX6_strain 0 [42, 27, 28, 182, 0, 200, 153, 0, 11, 42, 29, 182, 0, 112, 154, 0, 10, 42, 16, 254, 182, 0, 70, 172, 42] := bysAt_of (by decide +kernel)
theorem dX6_strain_0 : decode cX6_strain 0 = .ok (.aload_n 0, 1) := o_42 (bg_dX6_strain_0 0 42 rfl)
theorem dX6_strain_1 : decode cX6_strain 1 = .ok (.iload_n 1, 1) := o_27 (bg_dX6_strain_0 1 27 rfl)
theorem dX6_strain_2 : decode cX6_strain 2 = .ok (.iload_n 2, 1) := o_28 (bg_dX6_strain_0 2 28 rfl)
theorem dX6_strain_3 : decode cX6_strain 3 = .ok (.invokevirtual 200, 3) := o_182 (bg_dX6_strain_0 3 182 rfl) (bg_dX6_strain_0 4 0 rfl) (bg_dX6_strain_0 5 200 rfl)
theorem dX6_strain_6 : decode cX6_strain 6 = .ok (.ifCond .eq 11, 3) := o_153 (bg_dX6_strain_0 6 153 rfl) (bg_dX6_strain_0 7 0 rfl) (bg_dX6_strain_0 8 11 rfl) (by decide +kernel)
theorem dX6_strain_9 : decode cX6_strain 9 = .ok (.aload_n 0, 1) := o_42 (bg_dX6_strain_0 9 42 rfl)
theorem dX6_strain_10 : decode cX6_strain 10 = .ok (.iload_n 3, 1) := o_29 (bg_dX6_strain_0 10 29 rfl)
theorem dX6_strain_11 : decode cX6_strain 11 = .ok (.invokevirtual 112, 3) := o_182 (bg_dX6_strain_0 11 182 rfl) (bg_dX6_strain_0 12 0 rfl) (bg_dX6_strain_0 13 112 rfl)
theorem dX6_strain_14 : decode cX6_strain 14 = .ok (.ifCond .ne 10, 3) := o_154 (bg_dX6_strain_0 14 154 rfl) (bg_dX6_strain_0 15 0 rfl) (bg_dX6_strain_0 16 10 rfl) (by decide +kernel)
theorem dX6_strain_17 : decode cX6_strain 17 = .ok (.aload_n 0, 1) := o_42 (bg_dX6_strain_0 17 42 rfl)
theorem dX6_strain_18 : decode cX6_strain 18 = .ok (.bipush (-2), 2) := o_16 (bg_dX6_strain_0 18 16 rfl) (bg_dX6_strain_0 19 254 rfl) (by decide +kernel)
theorem dX6_strain_20 : decode cX6_strain 20 = .ok (.invokevirtual 70, 3) := o_182 (bg_dX6_strain_0 20 182 rfl) (bg_dX6_strain_0 21 0 rfl) (bg_dX6_strain_0 22 70 rfl)
theorem dX6_strain_23 : decode cX6_strain 23 = .ok (.ireturn, 1) := o_172 (bg_dX6_strain_0 23 172 rfl)
theorem dX6_strain_24 : decode cX6_strain 24 = .ok (.aload_n 0, 1) := o_42 (bg_dX6_strain_0 24 42 rfl)
theorem bg_dX6_strain_25 : bysAt cX6_strain 25 [180, 0, 28, 180, 0, 203, 42, 180, 0, 10, 27, 28, 182, 0, 207, 42, 180, 0, 28, 180, 0, 203, 42, 180, 0, 10, 29, 5] := bysAt_of (by decide +kernel)
theorem dX6_strain_25 : decode cX6_strain 25 = .ok (.getfield 28, 3) := o_180 (bg_dX6_strain_25 0 180 rfl) (bg_dX6_strain_25 1 0 rfl) (bg_dX6_strain_25 2 28 rfl)
theorem dX6_strain_28 : decode cX6_strain 28 = .ok (.getfield 203, 3) := o_180 (bg_dX6_strain_25 3 180 rfl) (bg_dX6_strain_25 4 0 rfl) (bg_dX6_strain_25 5 203 rfl)
theorem dX6_strain_31 : decode cX6_strain 31 = .ok (.aload_n 0, 1) := o_42 (bg_dX6_strain_25 6 42 rfl)
theorem dX6_strain_32 : decode cX6_strain 32 = .ok (.getfield 10, 3) := o_180 (bg_dX6_strain_25 7 180 rfl) (bg_dX6_strain_25 8 0 rfl) (bg_dX6_strain_25 9 10 rfl)
theorem dX6_strain_35 : decode cX6_strain 35 = .ok (.iload_n 1, 1) := o_27 (bg_dX6_strain_25 10 27 rfl)
theorem dX6_strain_36 : decode cX6_strain 36 = .ok (.iload_n 2, 1) := o_28 (bg_dX6_strain_25 11 28 rfl)
theorem dX6_strain_37 : decode cX6_strain 37 = .ok (.invokevirtual 207, 3) := o_182 (bg_dX6_strain_25 12 182 rfl) (bg_dX6_strain_25 13 0 rfl) (bg_dX6_strain_25 14 207 rfl)
theorem dX6_strain_40 : decode cX6_strain 40 = .ok (.aload_n 0, 1) := o_42 (bg_dX6_strain_25 15 42 rfl)
theorem dX6_strain_41 : decode cX6_strain 41 = .ok (.getfield 28, 3) := o_180 (bg_dX6_strain_25 16 180 rfl) (bg_dX6_strain_25 17 0 rfl) (bg_dX6_strain_25 18 28 rfl)
theorem dX6_strain_44 : decode cX6_strain 44 = .ok (.getfield 203, 3) := o_180 (bg_dX6_strain_25 19 180 rfl) (bg_dX6_strain_25 20 0 rfl) (bg_dX6_strain_25 21 203 rfl)
theorem dX6_strain_47 : decode cX6_strain 47 = .ok (.aload_n 0, 1) := o_42 (bg_dX6_strain_25 22 42 rfl)
theorem dX6_strain_48 : decode cX6_strain 48 = .ok (.getfield 10, 3) := o_180 (bg_dX6_strain_25 23 180 rfl) (bg_dX6_strain_25 24 0 rfl) (bg_dX6_strain_25 25 10 rfl)
theorem dX6_strain_51 : decode cX6_strain 51 = .ok (.iload_n 3, 1) := o_29 (bg_dX6_strain_25 26 29 rfl)
theorem dX6_strain_52 : decode cX6_strain 52 = .ok (.iconst 2, 1) := o_5 (bg_dX6_strain_25 27 5 rfl)
theorem bg_dX6_strain_53 : bysAt cX6_strain 53 [182, 0, 159, 182, 0, 216, 172] := bysAt_of (by decide +kernel)
theorem dX6_strain_53 : decode cX6_strain 53 = .ok (.invokevirtual 159, 3) := o_182 (bg_dX6_strain_53 0 182 rfl) (bg_dX6_strain_53 1 0 rfl) (bg_dX6_strain_53 2 159 rfl)
theorem dX6_strain_56 : decode cX6_strain 56 = .ok (.invokevirtual 216, 3) := o_182 (bg_dX6_strain_53 3 182 rfl) (bg_dX6_strain_53 4 0 rfl) (bg_dX6_strain_53 5 216 rfl)
theorem dX6_strain_59 : decode cX6_strain 59 = .ok (.ireturn, 1) := o_172 (bg_dX6_strain_53 6 172 rfl)
theorem bg_dX6_waggon_0 : bysAt cX6_waggon 0 [27, 5, 16, 12, 184, 0, 66, 153, 0, 23, 28, 4, 16, 9, 184, 0, 66, 153, 0, 13, 29, 3, 16, 99, 184, 0, 66] := bysAt_of (by decide +kernel)
theorem dX6_waggon_0 : decode cX6_waggon 0 = .ok (.iload_n 1, 1) := o_27 (bg_dX6_waggon_0 0 27 rfl)
theorem dX6_waggon_1 : decode cX6_waggon 1 = .ok (.iconst 2, 1) := o_5 (bg_dX6_waggon_0 1 5 rfl)
theorem dX6_waggon_2 : decode cX6_waggon 2 = .ok (.bipush 12, 2) := o_16 (bg_dX6_waggon_0 2 16 rfl) (bg_dX6_waggon_0 3 12 rfl) (by decide +kernel)
theorem dX6_waggon_4 : decode cX6_waggon 4 = .ok (.invokestatic 66, 3) := o_184 (bg_dX6_waggon_0 4 184 rfl) (bg_dX6_waggon_0 5 0 rfl) (bg_dX6_waggon_0 6 66 rfl)
theorem dX6_waggon_7 : decode cX6_waggon 7 = .ok (.ifCond .eq 23, 3) := o_153 (bg_dX6_waggon_0 7 153 rfl) (bg_dX6_waggon_0 8 0 rfl) (bg_dX6_waggon_0 9 23 rfl) (by decide +kernel)
theorem dX6_waggon_10 : decode cX6_waggon 10 = .ok (.iload_n 2, 1) := o_28 (bg_dX6_waggon_0 10 28 rfl)
theorem dX6_waggon_11 : decode cX6_waggon 11 = .ok (.iconst 1, 1) := o_4 (bg_dX6_waggon_0 11 4 rfl)
theorem dX6_waggon_12 : decode cX6_waggon 12 = .ok (.bipush 9, 2) := o_16 (bg_dX6_waggon_0 12 16 rfl) (bg_dX6_waggon_0 13 9 rfl) (by decide +kernel)
theorem dX6_waggon_14 : decode cX6_waggon 14 = .ok (.invokestatic 66, 3) := o_184 (bg_dX6_waggon_0 14 184 rfl) (bg_dX6_waggon_0 15 0 rfl) (bg_dX6_waggon_0 16 66 rfl)
theorem dX6_waggon_17 : decode cX6_waggon 17 = .ok (.ifCond .eq 13, 3) := o_153 (bg_dX6_waggon_0 17 153 rfl) (bg_dX6_waggon_0 18 0 rfl) (bg_dX6_waggon_0 19 13 rfl) (by decide +kernel)
theorem dX6_waggon_20 : decode cX6_waggon 20 = .ok (.iload_n 3, 1) := o_29 (bg_dX6_waggon_0 20 29 rfl)
theorem dX6_waggon_21 : decode cX6_waggon 21 = .ok (.iconst 0, 1) := o_3 (bg_dX6_waggon_0 21 3 rfl)
theorem dX6_waggon_22 : decode cX6_waggon 22 = .ok (.bipush 99, 2) := o_16 (bg_dX6_waggon_0 22 16 rfl) (bg_dX6_waggon_0 23 99 rfl) (by decide +kernel)
theorem dX6_waggon_24 : decode cX6_waggon 24 = .ok (.invokestatic 66, 3) := o_184 (bg_dX6_waggon_0 24 184 rfl) (bg_dX6_waggon_0 25 0 rfl) (bg_dX6_waggon_0 26 66 rfl)
theorem bg_dX6_waggon_27 : bysAt cX6_waggon 27 [154, 0, 10, 42, 16, 254, 182, 0, 70, 172, 42, 180, 0, 10, 5, 182, 0, 129, 154, 0, 10, 42, 16, 250, 182, 0, 70, 172] := bysAt_of (by decide +kernel)
theorem dX6_waggon_27 : decode cX6_waggon 27 = .ok (.ifCond .ne 10, 3) := o_154 (bg_dX6_waggon_27 0 154 rfl) (bg_dX6_waggon_27 1 0 rfl) (bg_dX6_waggon_27 2 10 rfl) (by decide +kernel)
theorem dX6_waggon_30 : decode cX6_waggon 30 = .ok (.aload_n 0, 1) := o_42 (bg_dX6_waggon_27 3 42 rfl)
theorem dX6_waggon_31 : decode cX6_waggon 31 = .ok (.bipush (-2), 2) := o_16 (bg_dX6_waggon_27 4 16 rfl) (bg_dX6_waggon_27 5 254 rfl) (by decide +kernel)
theorem dX6_waggon_33 : decode cX6_waggon 33 = .ok (.invokevirtual 70, 3) := o_182 (bg_dX6_waggon_27 6 182 rfl) (bg_dX6_waggon_27 7 0 rfl) (bg_dX6_waggon_27 8 70 rfl)
theorem dX6_waggon_36 : decode cX6_waggon 36 = .ok (.ireturn, 1) := o_172 (bg_dX6_waggon_27 9 172 rfl)
theorem dX6_waggon_37 : decode cX6_waggon 37 = .ok (.aload_n 0, 1) := o_42 (bg_dX6_waggon_27 10 42 rfl)
theorem dX6_waggon_38 : decode cX6_waggon 38 = .ok (.getfield 10, 3) := o_180 (bg_dX6_waggon_27 11 180 rfl) (bg_dX6_waggon_27 12 0 rfl) (bg_dX6_waggon_27 13 10 rfl)
theorem dX6_waggon_41 : decode cX6_waggon 41 = .ok (.iconst 2, 1) := o_5 (bg_dX6_waggon_27 14 5 rfl)
theorem dX6_waggon_42 : decode cX6_waggon 42 = .ok (.invokevirtual 129, 3) := o_182 (bg_dX6_waggon_27 15 182 rfl) (bg_dX6_waggon_27 16 0 rfl) (bg_dX6_waggon_27 17 129 rfl)
theorem dX6_waggon_45 : decode cX6_waggon 45 = .ok (.ifCond .ne 10, 3) := o_154 (bg_dX6_waggon_27 18 154 rfl) (bg_dX6_waggon_27 19 0 rfl) (bg_dX6_waggon_27 20 10 rfl) (by decide +kernel)
theorem dX6_waggon_48 : decode cX6_waggon 48 = .ok (.aload_n 0, 1) := o_42 (bg_dX6_waggon_27 21 42 rfl)
theorem dX6_waggon_49 : decode cX6_waggon 49 = .ok (.bipush (-6), 2) := o_16 (bg_dX6_waggon_27 22 16 rfl) (bg_dX6_waggon_27 23 250 rfl) (by decide +kernel)
theorem dX6_waggon_51 : decode cX6_waggon 51 = .ok (.invokevirtual 70, 3) := o_182 (bg_dX6_waggon_27 24 182 rfl) (bg_dX6_waggon_27 25 0 rfl) (bg_dX6_waggon_27 26 70 rfl)
theorem dX6_waggon_54 : decode cX6_waggon 54 = .ok (.ireturn, 1) := o_172 (bg_dX6_waggon_27 27 172 rfl)
theorem bg_dX6_waggon_55 : bysAt cX6_waggon 55 [42, 180, 0, 10, 27, 28, 29, 182, 0, 146, 172] := bysAt_of (by decide +kernel)
theorem dX6_waggon_55 : decode cX6_waggon 55 = .ok (.aload_n 0, 1) := o_42 (bg_dX6_waggon_55 0 42 rfl)
theorem dX6_waggon_56 : decode cX6_waggon 56 = .ok (.getfield 10, 3) := o_180 (bg_dX6_waggon_55 1 180 rfl) (bg_dX6_waggon_55 2 0 rfl) (bg_dX6_waggon_55 3 10 rfl)
theorem dX6_waggon_59 : decode cX6_waggon 59 = .ok (.iload_n 1, 1) := o_27 (bg_dX6_waggon_55 4 27 rfl)
theorem dX6_waggon_60 : decode cX6_waggon 60 = .ok (.iload_n 2, 1) := o_28 (bg_dX6_waggon_55 5 28 rfl)
theorem dX6_waggon_61 : decode cX6_waggon 61 = .ok (.iload_n 3, 1) := o_29 (bg_dX6_waggon_55 6 29 rfl)
theorem dX6_waggon_62 : decode cX6_waggon 62 = .ok (.invokevirtual 146, 3) := o_182 (bg_dX6_waggon_55 7 182 rfl) (bg_dX6_waggon_55 8 0 rfl) (bg_dX6_waggon_55 9 146 rfl)
theorem dX6_waggon_65 : decode cX6_waggon 65 = .ok (.ireturn, 1) := o_172 (bg_dX6_waggon_55 10 172 rfl)
theorem bg_dX6_wipe_0 : bysAt cX6_wipe 0 [42, 180, 0, 42, 180, 0, 171, 60, 42, 180, 0, 42, 3, 181, 0, 171, 27, 172] := bysAt_of (by decide +kernel)
theorem dX6_wipe_0 : decode cX6_wipe 0 = .ok (.aload_n 0, 1) := o_42 (bg_dX6_wipe_0 0 42 rfl)
theorem dX6_wipe_1 : decode cX6_wipe 1 = .ok (.getfield 42, 3) := o_180 (bg_dX6_wipe_0 1 180 rfl) (bg_dX6_wipe_0 2 0 rfl) (bg_dX6_wipe_0 3 42 rfl)
theorem dX6_wipe_4 : decode cX6_wipe 4 = .ok (.getfield 171, 3) := o_180 (bg_dX6_wipe_0 4 180 rfl) (bg_dX6_wipe_0 5 0 rfl) (bg_dX6_wipe_0 6 171 rfl)
theorem dX6_wipe_7 : decode cX6_wipe 7 = .ok (.istore_n 1, 1) := o_60 (bg_dX6_wipe_0 7 60 rfl)
theorem dX6_wipe_8 : decode cX6_wipe 8 = .ok (.aload_n 0, 1) := o_42 (bg_dX6_wipe_0 8 42 rfl)
theorem dX6_wipe_9 : decode cX6_wipe 9 = .ok (.getfield 42, 3) := o_180 (bg_dX6_wipe_0 9 180 rfl) (bg_dX6_wipe_0 10 0 rfl) (bg_dX6_wipe_0 11 42 rfl)
theorem dX6_wipe_12 : decode cX6_wipe 12 = .ok (.iconst 0, 1) := o_3 (bg_dX6_wipe_0 12 3 rfl)
theorem dX6_wipe_13 : decode cX6_wipe 13 = .ok (.putfield 171, 3) := o_181 (bg_dX6_wipe_0 13 181 rfl) (bg_dX6_wipe_0 14 0 rfl) (bg_dX6_wipe_0 15 171 rfl)
theorem dX6_wipe_16 : decode cX6_wipe 16 = .ok (.iload_n 1, 1) := o_27 (bg_dX6_wipe_0 16 27 rfl)
theorem dX6_wipe_17 : decode cX6_wipe 17 = .ok (.ireturn, 1) := o_172 (bg_dX6_wipe_0 17 172 rfl)
theorem pdVX0_addBridge : yX0_addBridge.cls = RX0 ∧ yX0_addBridge.cls ≠ "java/lang/invoke/MethodHandle" ∧ yX0_addBridge.cls ≠ "java/lang/invoke/VarHandle" ∧ (parseMethodDescriptor yX0_addBridge.desc).map (fun d => d.parameters.length) = some 5 := by decide +kernel
theorem pdVX0_addPart : yX0_addPart.cls = RX0 ∧ yX0_addPart.cls ≠ "java/lang/invoke/MethodHandle" ∧ yX0_addPart.cls ≠ "java/lang/invoke/VarHandle" ∧ (parseMethodDescriptor yX0_addPart.desc).map (fun d => d.parameters.length) = some 2 := by decide +kernel
theorem pdVX0_addRoad : yX0_addRoad.cls = RX0 ∧ yX0_addRoad.cls ≠ "java/lang/invoke/MethodHandle" ∧ yX0_addRoad.cls ≠ "java/lang/invoke/VarHandle" ∧ (parseMethodDescriptor yX0_addRoad.desc).map (fun d => d.parameters.length) = some 6 := by decide +kernel
theorem pdVX0_addWaggon : yX0_addWaggon.cls = RX0 ∧ yX0_addWaggon.cls ≠ "java/lang/invoke/MethodHandle" ∧ yX0_addWaggon.cls ≠ "java/lang/invoke/VarHandle" ∧ (parseMethodDescriptor yX0_addWaggon.desc).map (fun d => d.parameters.length) = some 3 := by decide +kernel
theorem pdVX0_hasRoom : yX0_hasRoom.cls = RX0 ∧ yX0_hasRoom.cls ≠ "java/lang/invoke/MethodHandle" ∧ yX0_hasRoom.cls ≠ "java/lang/invoke/VarHandle" ∧ (parseMethodDescriptor yX0_hasRoom.desc).map (fun d => d.parameters.length) = some 1 := by decide +kernel
theorem pdVX0_mayBeTakenFor : yX0_mayBeTakenFor.cls = RX0 ∧ yX0_mayBeTakenFor.cls ≠ "java/lang/invoke/MethodHandle" ∧ yX0_mayBeTakenFor.cls ≠ "java/lang/invoke/VarHandle" ∧ (parseMethodDescriptor yX0_mayBeTakenFor.desc).map (fun d => d.parameters.length) = some 2 := by decide +kernel
theorem pdVX0_putProp : yX0_putProp.cls = RX0 ∧ yX0_putProp.cls ≠ "java/lang/invoke/MethodHandle" ∧ yX0_putProp.cls ≠ "java/lang/invoke/VarHandle" ∧ (parseMethodDescriptor yX0_putProp.desc).map (fun d => d.parameters.length) = some 3 := by decide +kernel
theorem pdVX3_copyElements : yX3_copyElements.cls = RX3 ∧ yX3_copyElements.cls ≠ "java/lang/invoke/MethodHandle" ∧ yX3_copyElements.cls ≠ "java/lang/invoke/VarHandle" ∧ (parseMethodDescriptor yX3_copyElements.desc).map (fun d => d.parameters.length) = some 5 := by decide +kernel
theorem pdVX3_holdsUnlikeRows : yX3_holdsUnlikeRows.cls = RX3 ∧ yX3_holdsUnlikeRows.cls ≠ "java/lang/invoke/MethodHandle" ∧ yX3_holdsUnlikeRows.cls ≠ "java/lang/invoke/VarHandle" ∧ (parseMethodDescriptor yX3_holdsUnlikeRows.desc).map (fun d => d.parameters.length) = some 2 := by decide +kernel
theorem pdVX3_putElement : yX3_putElement.cls = RX3 ∧ yX3_putElement.cls ≠ "java/lang/invoke/MethodHandle" ∧ yX3_putElement.cls ≠ "java/lang/invoke/VarHandle" ∧ (parseMethodDescriptor yX3_putElement.desc).map (fun d => d.parameters.length) = some 3 := by decide +kernel
theorem pdVX3_putRow : yX3_putRow.cls = RX3 ∧ yX3_putRow.cls ≠ "java/lang/invoke/MethodHandle" ∧ yX3_putRow.cls ≠ "java/lang/invoke/VarHandle" ∧ (parseMethodDescriptor yX3_putRow.desc).map (fun d => d.parameters.length) = some 3 := by decide +kernel
theorem pdVX6_isBridge : yX6_isBridge.cls = RX6 ∧ yX6_isBridge.cls ≠ "java/lang/invoke/MethodHandle" ∧ yX6_isBridge.cls ≠ "java/lang/invoke/VarHandle" ∧ (parseMethodDescriptor yX6_isBridge.desc).map (fun d => d.parameters.length) = some 1 := by decide +kernel
theorem pdVX6_isRoad : yX6_isRoad.cls = RX6 ∧ yX6_isRoad.cls ≠ "java/lang/invoke/MethodHandle" ∧ yX6_isRoad.cls ≠ "java/lang/invoke/VarHandle" ∧ (parseMethodDescriptor yX6_isRoad.desc).map (fun d => d.parameters.length) = some 1 := by decide +kernel
theorem pdVX6_spoken : yX6_spoken.cls = RX6 ∧ yX6_spoken.cls ≠ "java/lang/invoke/MethodHandle" ∧ yX6_spoken.cls ≠ "java/lang/invoke/VarHandle" ∧ (parseMethodDescriptor yX6_spoken.desc).map (fun d => d.parameters.length) = some 2 := by decide +kernel
/-- row()'s answer -/
def oh_row (s t n : Int32) : Int32 := if ((0 : Int32) ≤ s ∧ s ≤ 7) ∧ ((0 : Int32) ≤ t ∧ t ≤ 4) ∧ ((0 : Int32) ≤ n ∧ n ≤ 40) then 1 else -2
theorem oh_row1 {s t n : Int32} (hs : rg s 0 7) (ht : rg t 0 4) (hn : rg n 0 40) : (1 : Int32) = oh_row s t n := (if_pos ⟨⟨Int32.le_iff_toInt_le.mpr hs.1, Int32.le_iff_toInt_le.mpr hs.2⟩, ⟨Int32.le_iff_toInt_le.mpr ht.1, Int32.le_iff_toInt_le.mpr ht.2⟩, ⟨Int32.le_iff_toInt_le.mpr hn.1, Int32.le_iff_toInt_le.mpr hn.2⟩⟩).symm
theorem oh_row2 {s t n : Int32} {r : Int32} (e : r = -2) (h : ¬ ((0 : Int32) ≤ s ∧ s ≤ 7) ∨ ¬ ((0 : Int32) ≤ t ∧ t ≤ 4) ∨ ¬ ((0 : Int32) ≤ n ∧ n ≤ 40)) : r = oh_row s t n := by
  rw [e]
  refine (if_neg (fun q => ?_)).symm
  rcases h with h | h | h
  · exact h q.1
  · exact h q.2.1
  · exact h q.2.2

set_option maxHeartbeats 4000000 in
set_option maxRecDepth 100000 in
theorem c_J6_bitCount_0f7a4 (l : Launch) (D : va_G) (E : Nat → ClassId) (G : Nat → Nat) (x1 : Int32) : Met l yJ6_bitCount_0f7a4 (oh_w yJ6_bitCount_0f7a4 cJ6_bitCount_0f7a4 1 (some .int)) ({ frames := 0, cells := 0, slots := 0, locals := 0 }) (oh_Pp D E G [.int x1] []) (vp_Si (fun r => True)) 0 0 (fun _ => False) := by
  refine Met.ofW (cc := cJ6_bitCount_0f7a4) (maxL := 1) (ret := (some .int)) (by decide) rfl ?_
  intro p e s m args below meth c s₁ B hml hv
  obtain ⟨rfl, hP, hK, hG⟩ := hv
  have hx := B.exec
  have hb := B.bytes
  have hr := B.returns
  have hts := atoms_spec (ws := (oh_w yJ6_bitCount_0f7a4 cJ6_bitCount_0f7a4 1 (some .int))) B.pre
  have htg : ∀ w ∈ oh_t, w.before _ s = true := fun w h => hts w (List.mem_cons_of_mem _ h)
  have hown : s.vm.findClass RJ6 = some m.cls := findClass_of_methodNamed B.named
  have hlocks := B.notSynchronized
  have hS : va_S (fun _ => False) s.heap s.heap [] := va_S.rf
  have hl := lv_entry ([.int x1]) (n := 1) (Nat.le_of_ble_eq_true rfl)
  rw [lg_entry_eq]
  generalize (lg_sl ([.int x1]) ++ List.replicate (1 - (lg_sl ([.int x1])).length) Slot.unset).toArray = ls at hl ⊢
  have hl : lv_has ls 1 [(0, .int x1)] := hl
  refine oh_genQ (fun Q hQ => ?_)
  refine lv_iload_n hx hb dJ6_bitCount_0f7a4_0 rfl (lv_at hl 0 rfl) ?_
  refine lv_iload_n hx hb dJ6_bitCount_0f7a4_1 rfl (lv_at hl 0 rfl) ?_
  refine lv_iconst (v := 1) hx hb dJ6_bitCount_0f7a4_2 (by decide) ?_
  refine lv_iushr (v := (x1.toUInt32 >>> ((1 : Int32).toUInt32 &&& Int32.toUInt32 31)).toInt32) hx hb dJ6_bitCount_0f7a4_3 rfl ?_
  refine lv_ldcw (v := 1431655765) hx hb hown (htg _ q_857) dJ6_bitCount_0f7a4_4 ?_
  refine lv_iand hx hb dJ6_bitCount_0f7a4_7 ?_
  refine lv_isub hx hb dJ6_bitCount_0f7a4_8 ?_
  refine lv_istore_n (lv' := [(0, .int (x1 - (((x1.toUInt32 >>> ((1 : Int32).toUInt32 &&& Int32.toUInt32 31)).toInt32) &&& 1431655765)))]) hx hb dJ6_bitCount_0f7a4_9 rfl hl (by decide) rfl (fun ls hl => ?_)
  refine lv_iload_n hx hb dJ6_bitCount_0f7a4_10 rfl (lv_at hl 0 rfl) ?_
  refine lv_ldcw (v := 858993459) hx hb hown (htg _ q_858) dJ6_bitCount_0f7a4_11 ?_
  refine lv_iand hx hb dJ6_bitCount_0f7a4_14 ?_
  refine lv_iload_n hx hb dJ6_bitCount_0f7a4_15 rfl (lv_at hl 0 rfl) ?_
  refine lv_iconst (v := 2) hx hb dJ6_bitCount_0f7a4_16 (by decide) ?_
  refine lv_iushr (v := ((x1 - (((x1.toUInt32 >>> ((1 : Int32).toUInt32 &&& Int32.toUInt32 31)).toInt32) &&& 1431655765)).toUInt32 >>> ((2 : Int32).toUInt32 &&& Int32.toUInt32 31)).toInt32) hx hb dJ6_bitCount_0f7a4_17 rfl ?_
  refine lv_ldcw (v := 858993459) hx hb hown (htg _ q_858) dJ6_bitCount_0f7a4_18 ?_
  refine lv_iand hx hb dJ6_bitCount_0f7a4_21 ?_
  refine lv_iadd hx hb dJ6_bitCount_0f7a4_22 ?_
  refine lv_istore_n (lv' := [(0, .int (((x1 - (((x1.toUInt32 >>> ((1 : Int32).toUInt32 &&& Int32.toUInt32 31)).toInt32) &&& 1431655765)) &&& 858993459) + ((((x1 - (((x1.toUInt32 >>> ((1 : Int32).toUInt32 &&& Int32.toUInt32 31)).toInt32) &&& 1431655765)).toUInt32 >>> ((2 : Int32).toUInt32 &&& Int32.toUInt32 31)).toInt32) &&& 858993459)))]) hx hb dJ6_bitCount_0f7a4_23 rfl hl (by decide) rfl (fun ls hl => ?_)
  refine lv_iload_n hx hb dJ6_bitCount_0f7a4_24 rfl (lv_at hl 0 rfl) ?_
  refine lv_iload_n hx hb dJ6_bitCount_0f7a4_25 rfl (lv_at hl 0 rfl) ?_
  refine lv_iconst (v := 4) hx hb dJ6_bitCount_0f7a4_26 (by decide) ?_
  refine lv_iushr (v := ((((x1 - (((x1.toUInt32 >>> ((1 : Int32).toUInt32 &&& Int32.toUInt32 31)).toInt32) &&& 1431655765)) &&& 858993459) + ((((x1 - (((x1.toUInt32 >>> ((1 : Int32).toUInt32 &&& Int32.toUInt32 31)).toInt32) &&& 1431655765)).toUInt32 >>> ((2 : Int32).toUInt32 &&& Int32.toUInt32 31)).toInt32) &&& 858993459)).toUInt32 >>> ((4 : Int32).toUInt32 &&& Int32.toUInt32 31)).toInt32) hx hb dJ6_bitCount_0f7a4_27 rfl ?_
  refine lv_iadd hx hb dJ6_bitCount_0f7a4_28 ?_
  refine lv_ldcw (v := 252645135) hx hb hown (htg _ q_859) dJ6_bitCount_0f7a4_29 ?_
  refine lv_iand hx hb dJ6_bitCount_0f7a4_32 ?_
  refine lv_istore_n (lv' := [(0, .int (((((x1 - (((x1.toUInt32 >>> ((1 : Int32).toUInt32 &&& Int32.toUInt32 31)).toInt32) &&& 1431655765)) &&& 858993459) + ((((x1 - (((x1.toUInt32 >>> ((1 : Int32).toUInt32 &&& Int32.toUInt32 31)).toInt32) &&& 1431655765)).toUInt32 >>> ((2 : Int32).toUInt32 &&& Int32.toUInt32 31)).toInt32) &&& 858993459)) + (((((x1 - (((x1.toUInt32 >>> ((1 : Int32).toUInt32 &&& Int32.toUInt32 31)).toInt32) &&& 1431655765)) &&& 858993459) + ((((x1 - (((x1.toUInt32 >>> ((1 : Int32).toUInt32 &&& Int32.toUInt32 31)).toInt32) &&& 1431655765)).toUInt32 >>> ((2 : Int32).toUInt32 &&& Int32.toUInt32 31)).toInt32) &&& 858993459)).toUInt32 >>> ((4 : Int32).toUInt32 &&& Int32.toUInt32 31)).toInt32)) &&& 252645135))]) hx hb dJ6_bitCount_0f7a4_33 rfl hl (by decide) rfl (fun ls hl => ?_)
  refine lv_iload_n hx hb dJ6_bitCount_0f7a4_34 rfl (lv_at hl 0 rfl) ?_
  refine lv_iload_n hx hb dJ6_bitCount_0f7a4_35 rfl (lv_at hl 0 rfl) ?_
  refine lv_bipush (v := 8) hx hb dJ6_bitCount_0f7a4_36 (by decide) ?_
  refine lv_iushr (v := ((((((x1 - (((x1.toUInt32 >>> ((1 : Int32).toUInt32 &&& Int32.toUInt32 31)).toInt32) &&& 1431655765)) &&& 858993459) + ((((x1 - (((x1.toUInt32 >>> ((1 : Int32).toUInt32 &&& Int32.toUInt32 31)).toInt32) &&& 1431655765)).toUInt32 >>> ((2 : Int32).toUInt32 &&& Int32.toUInt32 31)).toInt32) &&& 858993459)) + (((((x1 - (((x1.toUInt32 >>> ((1 : Int32).toUInt32 &&& Int32.toUInt32 31)).toInt32) &&& 1431655765)) &&& 858993459) + ((((x1 - (((x1.toUInt32 >>> ((1 : Int32).toUInt32 &&& Int32.toUInt32 31)).toInt32) &&& 1431655765)).toUInt32 >>> ((2 : Int32).toUInt32 &&& Int32.toUInt32 31)).toInt32) &&& 858993459)).toUInt32 >>> ((4 : Int32).toUInt32 &&& Int32.toUInt32 31)).toInt32)) &&& 252645135).toUInt32 >>> ((8 : Int32).toUInt32 &&& Int32.toUInt32 31)).toInt32) hx hb dJ6_bitCount_0f7a4_38 rfl ?_
  refine lv_iadd hx hb dJ6_bitCount_0f7a4_39 ?_
  refine lv_istore_n (lv' := [(0, .int ((((((x1 - (((x1.toUInt32 >>> ((1 : Int32).toUInt32 &&& Int32.toUInt32 31)).toInt32) &&& 1431655765)) &&& 858993459) + ((((x1 - (((x1.toUInt32 >>> ((1 : Int32).toUInt32 &&& Int32.toUInt32 31)).toInt32) &&& 1431655765)).toUInt32 >>> ((2 : Int32).toUInt32 &&& Int32.toUInt32 31)).toInt32) &&& 858993459)) + (((((x1 - (((x1.toUInt32 >>> ((1 : Int32).toUInt32 &&& Int32.toUInt32 31)).toInt32) &&& 1431655765)) &&& 858993459) + ((((x1 - (((x1.toUInt32 >>> ((1 : Int32).toUInt32 &&& Int32.toUInt32 31)).toInt32) &&& 1431655765)).toUInt32 >>> ((2 : Int32).toUInt32 &&& Int32.toUInt32 31)).toInt32) &&& 858993459)).toUInt32 >>> ((4 : Int32).toUInt32 &&& Int32.toUInt32 31)).toInt32)) &&& 252645135) + (((((((x1 - (((x1.toUInt32 >>> ((1 : Int32).toUInt32 &&& Int32.toUInt32 31)).toInt32) &&& 1431655765)) &&& 858993459) + ((((x1 - (((x1.toUInt32 >>> ((1 : Int32).toUInt32 &&& Int32.toUInt32 31)).toInt32) &&& 1431655765)).toUInt32 >>> ((2 : Int32).toUInt32 &&& Int32.toUInt32 31)).toInt32) &&& 858993459)) + (((((x1 - (((x1.toUInt32 >>> ((1 : Int32).toUInt32 &&& Int32.toUInt32 31)).toInt32) &&& 1431655765)) &&& 858993459) + ((((x1 - (((x1.toUInt32 >>> ((1 : Int32).toUInt32 &&& Int32.toUInt32 31)).toInt32) &&& 1431655765)).toUInt32 >>> ((2 : Int32).toUInt32 &&& Int32.toUInt32 31)).toInt32) &&& 858993459)).toUInt32 >>> ((4 : Int32).toUInt32 &&& Int32.toUInt32 31)).toInt32)) &&& 252645135).toUInt32 >>> ((8 : Int32).toUInt32 &&& Int32.toUInt32 31)).toInt32)))]) hx hb dJ6_bitCount_0f7a4_40 rfl hl (by decide) rfl (fun ls hl => ?_)
  refine lv_iload_n hx hb dJ6_bitCount_0f7a4_41 rfl (lv_at hl 0 rfl) ?_
  refine lv_iload_n hx hb dJ6_bitCount_0f7a4_42 rfl (lv_at hl 0 rfl) ?_
  refine lv_bipush (v := 16) hx hb dJ6_bitCount_0f7a4_43 (by decide) ?_
  refine lv_iushr (v := (((((((x1 - (((x1.toUInt32 >>> ((1 : Int32).toUInt32 &&& Int32.toUInt32 31)).toInt32) &&& 1431655765)) &&& 858993459) + ((((x1 - (((x1.toUInt32 >>> ((1 : Int32).toUInt32 &&& Int32.toUInt32 31)).toInt32) &&& 1431655765)).toUInt32 >>> ((2 : Int32).toUInt32 &&& Int32.toUInt32 31)).toInt32) &&& 858993459)) + (((((x1 - (((x1.toUInt32 >>> ((1 : Int32).toUInt32 &&& Int32.toUInt32 31)).toInt32) &&& 1431655765)) &&& 858993459) + ((((x1 - (((x1.toUInt32 >>> ((1 : Int32).toUInt32 &&& Int32.toUInt32 31)).toInt32) &&& 1431655765)).toUInt32 >>> ((2 : Int32).toUInt32 &&& Int32.toUInt32 31)).toInt32) &&& 858993459)).toUInt32 >>> ((4 : Int32).toUInt32 &&& Int32.toUInt32 31)).toInt32)) &&& 252645135) + (((((((x1 - (((x1.toUInt32 >>> ((1 : Int32).toUInt32 &&& Int32.toUInt32 31)).toInt32) &&& 1431655765)) &&& 858993459) + ((((x1 - (((x1.toUInt32 >>> ((1 : Int32).toUInt32 &&& Int32.toUInt32 31)).toInt32) &&& 1431655765)).toUInt32 >>> ((2 : Int32).toUInt32 &&& Int32.toUInt32 31)).toInt32) &&& 858993459)) + (((((x1 - (((x1.toUInt32 >>> ((1 : Int32).toUInt32 &&& Int32.toUInt32 31)).toInt32) &&& 1431655765)) &&& 858993459) + ((((x1 - (((x1.toUInt32 >>> ((1 : Int32).toUInt32 &&& Int32.toUInt32 31)).toInt32) &&& 1431655765)).toUInt32 >>> ((2 : Int32).toUInt32 &&& Int32.toUInt32 31)).toInt32) &&& 858993459)).toUInt32 >>> ((4 : Int32).toUInt32 &&& Int32.toUInt32 31)).toInt32)) &&& 252645135).toUInt32 >>> ((8 : Int32).toUInt32 &&& Int32.toUInt32 31)).toInt32)).toUInt32 >>> ((16 : Int32).toUInt32 &&& Int32.toUInt32 31)).toInt32) hx hb dJ6_bitCount_0f7a4_45 rfl ?_
  refine lv_iadd hx hb dJ6_bitCount_0f7a4_46 ?_
  refine lv_istore_n (lv' := [(0, .int (((((((x1 - (((x1.toUInt32 >>> ((1 : Int32).toUInt32 &&& Int32.toUInt32 31)).toInt32) &&& 1431655765)) &&& 858993459) + ((((x1 - (((x1.toUInt32 >>> ((1 : Int32).toUInt32 &&& Int32.toUInt32 31)).toInt32) &&& 1431655765)).toUInt32 >>> ((2 : Int32).toUInt32 &&& Int32.toUInt32 31)).toInt32) &&& 858993459)) + (((((x1 - (((x1.toUInt32 >>> ((1 : Int32).toUInt32 &&& Int32.toUInt32 31)).toInt32) &&& 1431655765)) &&& 858993459) + ((((x1 - (((x1.toUInt32 >>> ((1 : Int32).toUInt32 &&& Int32.toUInt32 31)).toInt32) &&& 1431655765)).toUInt32 >>> ((2 : Int32).toUInt32 &&& Int32.toUInt32 31)).toInt32) &&& 858993459)).toUInt32 >>> ((4 : Int32).toUInt32 &&& Int32.toUInt32 31)).toInt32)) &&& 252645135) + (((((((x1 - (((x1.toUInt32 >>> ((1 : Int32).toUInt32 &&& Int32.toUInt32 31)).toInt32) &&& 1431655765)) &&& 858993459) + ((((x1 - (((x1.toUInt32 >>> ((1 : Int32).toUInt32 &&& Int32.toUInt32 31)).toInt32) &&& 1431655765)).toUInt32 >>> ((2 : Int32).toUInt32 &&& Int32.toUInt32 31)).toInt32) &&& 858993459)) + (((((x1 - (((x1.toUInt32 >>> ((1 : Int32).toUInt32 &&& Int32.toUInt32 31)).toInt32) &&& 1431655765)) &&& 858993459) + ((((x1 - (((x1.toUInt32 >>> ((1 : Int32).toUInt32 &&& Int32.toUInt32 31)).toInt32) &&& 1431655765)).toUInt32 >>> ((2 : Int32).toUInt32 &&& Int32.toUInt32 31)).toInt32) &&& 858993459)).toUInt32 >>> ((4 : Int32).toUInt32 &&& Int32.toUInt32 31)).toInt32)) &&& 252645135).toUInt32 >>> ((8 : Int32).toUInt32 &&& Int32.toUInt32 31)).toInt32)) + ((((((((x1 - (((x1.toUInt32 >>> ((1 : Int32).toUInt32 &&& Int32.toUInt32 31)).toInt32) &&& 1431655765)) &&& 858993459) + ((((x1 - (((x1.toUInt32 >>> ((1 : Int32).toUInt32 &&& Int32.toUInt32 31)).toInt32) &&& 1431655765)).toUInt32 >>> ((2 : Int32).toUInt32 &&& Int32.toUInt32 31)).toInt32) &&& 858993459)) + (((((x1 - (((x1.toUInt32 >>> ((1 : Int32).toUInt32 &&& Int32.toUInt32 31)).toInt32) &&& 1431655765)) &&& 858993459) + ((((x1 - (((x1.toUInt32 >>> ((1 : Int32).toUInt32 &&& Int32.toUInt32 31)).toInt32) &&& 1431655765)).toUInt32 >>> ((2 : Int32).toUInt32 &&& Int32.toUInt32 31)).toInt32) &&& 858993459)).toUInt32 >>> ((4 : Int32).toUInt32 &&& Int32.toUInt32 31)).toInt32)) &&& 252645135) + (((((((x1 - (((x1.toUInt32 >>> ((1 : Int32).toUInt32 &&& Int32.toUInt32 31)).toInt32) &&& 1431655765)) &&& 858993459) + ((((x1 - (((x1.toUInt32 >>> ((1 : Int32).toUInt32 &&& Int32.toUInt32 31)).toInt32) &&& 1431655765)).toUInt32 >>> ((2 : Int32).toUInt32 &&& Int32.toUInt32 31)).toInt32) &&& 858993459)) + (((((x1 - (((x1.toUInt32 >>> ((1 : Int32).toUInt32 &&& Int32.toUInt32 31)).toInt32) &&& 1431655765)) &&& 858993459) + ((((x1 - (((x1.toUInt32 >>> ((1 : Int32).toUInt32 &&& Int32.toUInt32 31)).toInt32) &&& 1431655765)).toUInt32 >>> ((2 : Int32).toUInt32 &&& Int32.toUInt32 31)).toInt32) &&& 858993459)).toUInt32 >>> ((4 : Int32).toUInt32 &&& Int32.toUInt32 31)).toInt32)) &&& 252645135).toUInt32 >>> ((8 : Int32).toUInt32 &&& Int32.toUInt32 31)).toInt32)).toUInt32 >>> ((16 : Int32).toUInt32 &&& Int32.toUInt32 31)).toInt32)))]) hx hb dJ6_bitCount_0f7a4_47 rfl hl (by decide) rfl (fun ls hl => ?_)
  refine lv_iload_n hx hb dJ6_bitCount_0f7a4_48 rfl (lv_at hl 0 rfl) ?_
  refine lv_bipush (v := 63) hx hb dJ6_bitCount_0f7a4_49 (by decide) ?_
  refine lv_iand hx hb dJ6_bitCount_0f7a4_51 ?_
  rw [hQ]
  exact W.iret (v := (((((((x1 - (((x1.toUInt32 >>> ((1 : Int32).toUInt32 &&& Int32.toUInt32 31)).toInt32) &&& 1431655765)) &&& 858993459) + ((((x1 - (((x1.toUInt32 >>> ((1 : Int32).toUInt32 &&& Int32.toUInt32 31)).toInt32) &&& 1431655765)).toUInt32 >>> ((2 : Int32).toUInt32 &&& Int32.toUInt32 31)).toInt32) &&& 858993459)) + (((((x1 - (((x1.toUInt32 >>> ((1 : Int32).toUInt32 &&& Int32.toUInt32 31)).toInt32) &&& 1431655765)) &&& 858993459) + ((((x1 - (((x1.toUInt32 >>> ((1 : Int32).toUInt32 &&& Int32.toUInt32 31)).toInt32) &&& 1431655765)).toUInt32 >>> ((2 : Int32).toUInt32 &&& Int32.toUInt32 31)).toInt32) &&& 858993459)).toUInt32 >>> ((4 : Int32).toUInt32 &&& Int32.toUInt32 31)).toInt32)) &&& 252645135) + (((((((x1 - (((x1.toUInt32 >>> ((1 : Int32).toUInt32 &&& Int32.toUInt32 31)).toInt32) &&& 1431655765)) &&& 858993459) + ((((x1 - (((x1.toUInt32 >>> ((1 : Int32).toUInt32 &&& Int32.toUInt32 31)).toInt32) &&& 1431655765)).toUInt32 >>> ((2 : Int32).toUInt32 &&& Int32.toUInt32 31)).toInt32) &&& 858993459)) + (((((x1 - (((x1.toUInt32 >>> ((1 : Int32).toUInt32 &&& Int32.toUInt32 31)).toInt32) &&& 1431655765)) &&& 858993459) + ((((x1 - (((x1.toUInt32 >>> ((1 : Int32).toUInt32 &&& Int32.toUInt32 31)).toInt32) &&& 1431655765)).toUInt32 >>> ((2 : Int32).toUInt32 &&& Int32.toUInt32 31)).toInt32) &&& 858993459)).toUInt32 >>> ((4 : Int32).toUInt32 &&& Int32.toUInt32 31)).toInt32)) &&& 252645135).toUInt32 >>> ((8 : Int32).toUInt32 &&& Int32.toUInt32 31)).toInt32)) + ((((((((x1 - (((x1.toUInt32 >>> ((1 : Int32).toUInt32 &&& Int32.toUInt32 31)).toInt32) &&& 1431655765)) &&& 858993459) + ((((x1 - (((x1.toUInt32 >>> ((1 : Int32).toUInt32 &&& Int32.toUInt32 31)).toInt32) &&& 1431655765)).toUInt32 >>> ((2 : Int32).toUInt32 &&& Int32.toUInt32 31)).toInt32) &&& 858993459)) + (((((x1 - (((x1.toUInt32 >>> ((1 : Int32).toUInt32 &&& Int32.toUInt32 31)).toInt32) &&& 1431655765)) &&& 858993459) + ((((x1 - (((x1.toUInt32 >>> ((1 : Int32).toUInt32 &&& Int32.toUInt32 31)).toInt32) &&& 1431655765)).toUInt32 >>> ((2 : Int32).toUInt32 &&& Int32.toUInt32 31)).toInt32) &&& 858993459)).toUInt32 >>> ((4 : Int32).toUInt32 &&& Int32.toUInt32 31)).toInt32)) &&& 252645135) + (((((((x1 - (((x1.toUInt32 >>> ((1 : Int32).toUInt32 &&& Int32.toUInt32 31)).toInt32) &&& 1431655765)) &&& 858993459) + ((((x1 - (((x1.toUInt32 >>> ((1 : Int32).toUInt32 &&& Int32.toUInt32 31)).toInt32) &&& 1431655765)).toUInt32 >>> ((2 : Int32).toUInt32 &&& Int32.toUInt32 31)).toInt32) &&& 858993459)) + (((((x1 - (((x1.toUInt32 >>> ((1 : Int32).toUInt32 &&& Int32.toUInt32 31)).toInt32) &&& 1431655765)) &&& 858993459) + ((((x1 - (((x1.toUInt32 >>> ((1 : Int32).toUInt32 &&& Int32.toUInt32 31)).toInt32) &&& 1431655765)).toUInt32 >>> ((2 : Int32).toUInt32 &&& Int32.toUInt32 31)).toInt32) &&& 858993459)).toUInt32 >>> ((4 : Int32).toUInt32 &&& Int32.toUInt32 31)).toInt32)) &&& 252645135).toUInt32 >>> ((8 : Int32).toUInt32 &&& Int32.toUInt32 31)).toInt32)).toUInt32 >>> ((16 : Int32).toUInt32 &&& Int32.toUInt32 31)).toInt32)) &&& 63) hx hb hr (fun t ht hW => ⟨(((((((x1 - (((x1.toUInt32 >>> ((1 : Int32).toUInt32 &&& Int32.toUInt32 31)).toInt32) &&& 1431655765)) &&& 858993459) + ((((x1 - (((x1.toUInt32 >>> ((1 : Int32).toUInt32 &&& Int32.toUInt32 31)).toInt32) &&& 1431655765)).toUInt32 >>> ((2 : Int32).toUInt32 &&& Int32.toUInt32 31)).toInt32) &&& 858993459)) + (((((x1 - (((x1.toUInt32 >>> ((1 : Int32).toUInt32 &&& Int32.toUInt32 31)).toInt32) &&& 1431655765)) &&& 858993459) + ((((x1 - (((x1.toUInt32 >>> ((1 : Int32).toUInt32 &&& Int32.toUInt32 31)).toInt32) &&& 1431655765)).toUInt32 >>> ((2 : Int32).toUInt32 &&& Int32.toUInt32 31)).toInt32) &&& 858993459)).toUInt32 >>> ((4 : Int32).toUInt32 &&& Int32.toUInt32 31)).toInt32)) &&& 252645135) + (((((((x1 - (((x1.toUInt32 >>> ((1 : Int32).toUInt32 &&& Int32.toUInt32 31)).toInt32) &&& 1431655765)) &&& 858993459) + ((((x1 - (((x1.toUInt32 >>> ((1 : Int32).toUInt32 &&& Int32.toUInt32 31)).toInt32) &&& 1431655765)).toUInt32 >>> ((2 : Int32).toUInt32 &&& Int32.toUInt32 31)).toInt32) &&& 858993459)) + (((((x1 - (((x1.toUInt32 >>> ((1 : Int32).toUInt32 &&& Int32.toUInt32 31)).toInt32) &&& 1431655765)) &&& 858993459) + ((((x1 - (((x1.toUInt32 >>> ((1 : Int32).toUInt32 &&& Int32.toUInt32 31)).toInt32) &&& 1431655765)).toUInt32 >>> ((2 : Int32).toUInt32 &&& Int32.toUInt32 31)).toInt32) &&& 858993459)).toUInt32 >>> ((4 : Int32).toUInt32 &&& Int32.toUInt32 31)).toInt32)) &&& 252645135).toUInt32 >>> ((8 : Int32).toUInt32 &&& Int32.toUInt32 31)).toInt32)) + ((((((((x1 - (((x1.toUInt32 >>> ((1 : Int32).toUInt32 &&& Int32.toUInt32 31)).toInt32) &&& 1431655765)) &&& 858993459) + ((((x1 - (((x1.toUInt32 >>> ((1 : Int32).toUInt32 &&& Int32.toUInt32 31)).toInt32) &&& 1431655765)).toUInt32 >>> ((2 : Int32).toUInt32 &&& Int32.toUInt32 31)).toInt32) &&& 858993459)) + (((((x1 - (((x1.toUInt32 >>> ((1 : Int32).toUInt32 &&& Int32.toUInt32 31)).toInt32) &&& 1431655765)) &&& 858993459) + ((((x1 - (((x1.toUInt32 >>> ((1 : Int32).toUInt32 &&& Int32.toUInt32 31)).toInt32) &&& 1431655765)).toUInt32 >>> ((2 : Int32).toUInt32 &&& Int32.toUInt32 31)).toInt32) &&& 858993459)).toUInt32 >>> ((4 : Int32).toUInt32 &&& Int32.toUInt32 31)).toInt32)) &&& 252645135) + (((((((x1 - (((x1.toUInt32 >>> ((1 : Int32).toUInt32 &&& Int32.toUInt32 31)).toInt32) &&& 1431655765)) &&& 858993459) + ((((x1 - (((x1.toUInt32 >>> ((1 : Int32).toUInt32 &&& Int32.toUInt32 31)).toInt32) &&& 1431655765)).toUInt32 >>> ((2 : Int32).toUInt32 &&& Int32.toUInt32 31)).toInt32) &&& 858993459)) + (((((x1 - (((x1.toUInt32 >>> ((1 : Int32).toUInt32 &&& Int32.toUInt32 31)).toInt32) &&& 1431655765)) &&& 858993459) + ((((x1 - (((x1.toUInt32 >>> ((1 : Int32).toUInt32 &&& Int32.toUInt32 31)).toInt32) &&& 1431655765)).toUInt32 >>> ((2 : Int32).toUInt32 &&& Int32.toUInt32 31)).toInt32) &&& 858993459)).toUInt32 >>> ((4 : Int32).toUInt32 &&& Int32.toUInt32 31)).toInt32)) &&& 252645135).toUInt32 >>> ((8 : Int32).toUInt32 &&& Int32.toUInt32 31)).toInt32)).toUInt32 >>> ((16 : Int32).toUInt32 &&& Int32.toUInt32 31)).toInt32)) &&& 63, rfl, trivial, ht⟩) (fun q h => by cases h) dJ6_bitCount_0f7a4_52

set_option maxHeartbeats 4000000 in
set_option maxRecDepth 100000 in
theorem c_X6_row (l : Launch) (D : va_G) (E : Nat → ClassId) (G : Nat → Nat) (sz : Nat) (a : Nat → Nat) (C : Nat → va_E) (hT : TyX a E C) (x1 : Int32) (x2 : Int32) (x3 : Int32) : Met l yX6_row (oh_w yX6_row cX6_row 4 (some .int)) ({ frames := 2, cells := 0, slots := 0, locals := 44 }) (oh_Pm D E G [.ref (a 0), .int x1, .int x2, .int x3] (oh_W 35 a C) sz) (va_Qi (fun r (u : Nat → va_E) => TyX a E u ∧ fr [(7, 8), (29, 32)] [] C u ∧ (r = oh_row x1 x2 x3)) (oh_B D (va_A (oh_W 35 a C) sz) (fun u => oh_W 35 a u)) (va_A (oh_W 35 a C) sz)) 0 0 (va_A (oh_W 35 a C) sz) := by
  refine Met.ofW (cc := cX6_row) (maxL := 4) (ret := (some .int)) (by decide) rfl ?_
  intro p e s m args below meth c s₁ B hml hv
  obtain ⟨rfl, hsz, hP, hK, hD0, hG⟩ := hv
  have hx := B.exec
  have hb := B.bytes
  have hr := B.returns
  have hts := atoms_spec (ws := (oh_w yX6_row cX6_row 4 (some .int))) B.pre
  have htg : ∀ w ∈ oh_t, w.before _ s = true := fun w h => hts w (List.mem_cons_of_mem _ h)
  have hown : s.vm.findClass RX6 = some m.cls := findClass_of_methodNamed B.named
  have hlocks := B.notSynchronized
  have hT0 := hT
  subst hsz
  have hD := hD0.self (sz := s.heap.size)
  generalize hAe : va_A (oh_W 35 a C) s.heap.size = A at hD hG ⊢
  have hA : ∀ q : Nat, s.heap.size ≤ q → A q := fun q h => by rw [← hAe]; exact Or.inr h
  have hS : va_S A s.heap s.heap [] := va_S.rf
  have hF : fr [(7, 8), (29, 32)] [] C C := fr_rf
  have hl := lv_entry ([.ref (a 0), .int x1, .int x2, .int x3]) (n := 4) (Nat.le_of_ble_eq_true rfl)
  rw [lg_entry_eq]
  generalize (lg_sl ([.ref (a 0), .int x1, .int x2, .int x3]) ++ List.replicate (4 - (lg_sl ([.ref (a 0), .int x1, .int x2, .int x3])).length) Slot.unset).toArray = ls at hl ⊢
  have hl : lv_has ls 4 [(0, .ref (a 0)), (1, .int x1), (2, .int x2), (3, .int x3)] := hl
  refine oh_genQ (fun Q hQ => ?_)
  refine lv_iload_n hx hb dX6_row_0 rfl (lv_at hl 1 rfl) ?_
  refine tq_S (As := [.int x1]) (rest := []) (ws := []) ⟨hx, hb, hml, hown, htg⟩ (c_X6_isShelf l D E G x1) (va_cwS 1 htg (oh_gS q_290 q_291 q_66 q_292) rfl rfl rfl pdX6_isShelf ⟨Nat.le_of_ble_eq_true rfl, Nat.le_of_ble_eq_true rfl⟩) hK va_nil hG hS rfl hl.1 rfl (Nat.le_of_ble_eq_true rfl) dX6_row_1 ⟨Nat.le_of_ble_eq_true rfl, Nat.le_of_ble_eq_true rfl⟩ (fun r_1 hq_2 => ?_)
  refine lv_if_eq (tgt := 26) hx hb dX6_row_4 (by decide) (fun (c_3 : r_1 = 0) => ?_) (fun (c_3 : ¬ (r_1 = 0)) => ?_)
  · have u_4 := hq_2.2.2 c_3
    refine lv_aload_n hx hb dX6_row_26 rfl (lv_at hl 0 rfl) ?_
    refine lv_bipush (v := (-2)) hx hb dX6_row_27 (by decide) ?_
    refine tm_V (As := [.int (-2)]) (rest := []) ⟨hx, hb, hml, hown, htg⟩ (c_X6_refuse l D E G _ a C hT ((-2) : Int32)) (cwV 1 htg (oh_gV q_296 q_298 q_0 q_66 q_299) rfl rfl rfl pdVX6_refuse ⟨Nat.le_of_ble_eq_true rfl, Nat.le_of_ble_eq_true rfl⟩) hK hP hD hG hS hA (va_recv hK hP (ci := 6) (q0 := 0) rfl (oh_wg (by decide) (sX_0 hT))) rfl hl.1 rfl (Nat.le_of_ble_eq_true rfl) dX6_row_29 ⟨Nat.le_of_ble_eq_true rfl, Nat.le_of_ble_eq_true rfl⟩ (fun r_5 C_6 H locs hq_7 hP hD hS => ?_)
    obtain ⟨hT, f_8, hq_7⟩ := hq_7
    have hF := fr_tr hF f_8 (by decide) (by decide)
    refine W.widen (k := 0) (n := 0) (Nat.le_refl _) (Nat.le_refl _) ?_
    have t_9 := hT
    rw [hQ]
    exact W.iret (v := r_5) hx hb hr (fun t ht hW => ⟨⟨r_5, C_6, rfl, ⟨hT, hF, (oh_row2 hq_7 (Or.inl u_4))⟩, ⟨by rw [ht]; exact hP, hD⟩⟩, hS.F ht⟩) hS.2.2 dX6_row_32
  · have u_10 := hq_2.2.1 c_3
    refine lv_iload_n hx hb dX6_row_7 rfl (lv_at hl 2 rfl) ?_
    refine lv_iconst (v := 0) hx hb dX6_row_8 (by decide) ?_
    refine lv_iconst (v := 4) hx hb dX6_row_9 (by decide) ?_
    refine tq_S (As := [.int x2, .int 0, .int 4]) (rest := []) (ws := []) ⟨hx, hb, hml, hown, htg⟩ (c_X6_within l D E G x2 (0 : Int32) (4 : Int32)) (va_cwS 3 htg (oh_gS q_293 q_294 q_66 q_295) rfl rfl rfl pdX6_within ⟨Nat.le_of_ble_eq_true rfl, Nat.le_of_ble_eq_true rfl⟩) hK va_nil hG hS rfl hl.1 rfl (Nat.le_of_ble_eq_true rfl) dX6_row_10 ⟨Nat.le_of_ble_eq_true rfl, Nat.le_of_ble_eq_true rfl⟩ (fun r_11 hq_12 => ?_)
    refine lv_if_eq (tgt := 26) hx hb dX6_row_13 (by decide) (fun (c_13 : r_11 = 0) => ?_) (fun (c_13 : ¬ (r_11 = 0)) => ?_)
    · have u_14 := hq_12.2.2 c_13
      refine lv_aload_n hx hb dX6_row_26 rfl (lv_at hl 0 rfl) ?_
      refine lv_bipush (v := (-2)) hx hb dX6_row_27 (by decide) ?_
      refine tm_V (As := [.int (-2)]) (rest := []) ⟨hx, hb, hml, hown, htg⟩ (c_X6_refuse l D E G _ a C hT ((-2) : Int32)) (cwV 1 htg (oh_gV q_296 q_298 q_0 q_66 q_299) rfl rfl rfl pdVX6_refuse ⟨Nat.le_of_ble_eq_true rfl, Nat.le_of_ble_eq_true rfl⟩) hK hP hD hG hS hA (va_recv hK hP (ci := 6) (q0 := 0) rfl (oh_wg (by decide) (sX_0 hT))) rfl hl.1 rfl (Nat.le_of_ble_eq_true rfl) dX6_row_29 ⟨Nat.le_of_ble_eq_true rfl, Nat.le_of_ble_eq_true rfl⟩ (fun r_15 C_16 H locs hq_17 hP hD hS => ?_)
      obtain ⟨hT, f_18, hq_17⟩ := hq_17
      have hF := fr_tr hF f_18 (by decide) (by decide)
      refine W.widen (k := 0) (n := 0) (Nat.le_refl _) (Nat.le_refl _) ?_
      have t_19 := hT
      rw [hQ]
      exact W.iret (v := r_15) hx hb hr (fun t ht hW => ⟨⟨r_15, C_16, rfl, ⟨hT, hF, (oh_row2 hq_17 (Or.inr (Or.inl u_14)))⟩, ⟨by rw [ht]; exact hP, hD⟩⟩, hS.F ht⟩) hS.2.2 dX6_row_32
    · have u_20 := hq_12.2.1 c_13
      refine lv_iload_n hx hb dX6_row_16 rfl (lv_at hl 3 rfl) ?_
      refine lv_iconst (v := 0) hx hb dX6_row_17 (by decide) ?_
      refine lv_bipush (v := 40) hx hb dX6_row_18 (by decide) ?_
      refine tq_S (As := [.int x3, .int 0, .int 40]) (rest := []) (ws := []) ⟨hx, hb, hml, hown, htg⟩ (c_X6_within l D E G x3 (0 : Int32) (40 : Int32)) (va_cwS 3 htg (oh_gS q_293 q_294 q_66 q_295) rfl rfl rfl pdX6_within ⟨Nat.le_of_ble_eq_true rfl, Nat.le_of_ble_eq_true rfl⟩) hK va_nil hG hS rfl hl.1 rfl (Nat.le_of_ble_eq_true rfl) dX6_row_20 ⟨Nat.le_of_ble_eq_true rfl, Nat.le_of_ble_eq_true rfl⟩ (fun r_21 hq_22 => ?_)
      refine lv_if_ne (tgt := 33) hx hb dX6_row_23 (by decide) (fun (c_23 : ¬ (r_21 = 0)) => ?_) (fun (c_23 : r_21 = 0) => ?_)
      · have u_24 := hq_22.2.1 c_23
        refine lv_aload_n hx hb dX6_row_33 rfl (lv_at hl 0 rfl) ?_
        refine va_get (D := D) (ci := 6) (v := .ref (a 4)) (C := RX6) (T := TX6) (N := 9) hx hb htg ig_6 hown hK hP 0 (oh_wg (by decide) (sX_0 hT)) rfl 4 (by decide) (htg _ q_262) (fun _ h9 => h9) rfl dX6_row_34 ?_
        refine lv_iload_n hx hb dX6_row_37 rfl (lv_at hl 1 rfl) ?_
        refine lv_iload_n hx hb dX6_row_38 rfl (lv_at hl 2 rfl) ?_
        refine lv_iload_n hx hb dX6_row_39 rfl (lv_at hl 3 rfl) ?_
        refine tm_Vv (As := [.int x1, .int x2, .int x3]) (rest := []) ⟨hx, hb, hml, hown, htg⟩ (c_X3_putRow l D E G _ a C hT x1 x2 x3 (rg_w u_10 (by decide)) (rg_w (rn_leu u_24.2 (rn_lel u_24.1 (rg_c (v := 0) (lo := 0) (hi := 0) (by decide)) (rg_any _)) (rg_c (v := 40) (lo := 40) (hi := 40) (by decide))) (by decide))) (cwV 3 htg (oh_gV q_300 q_301 q_302 q_70 q_303) rfl rfl rfl pdVX3_putRow ⟨Nat.le_of_ble_eq_true rfl, Nat.le_of_ble_eq_true rfl⟩) hK hP hD hG hS hA (va_recv hK hP (ci := 3) (q0 := 4) rfl (oh_wg (by decide) (sX_4 hT))) rfl hl.1 rfl (Nat.le_of_ble_eq_true rfl) dX6_row_40 ⟨Nat.le_of_ble_eq_true rfl, Nat.le_of_ble_eq_true rfl⟩ (fun C_26 H locs hq_27 hP hD hS => ?_)
        obtain ⟨hT, f_28, hq_27⟩ := hq_27
        have hF := fr_tr hF f_28 (by decide) (by decide)
        refine W.widen (k := 0) (n := 0) (Nat.le_refl _) (Nat.le_refl _) ?_
        have t_29 := hT
        refine lv_iconst (v := 1) hx hb dX6_row_43 (by decide) ?_
        rw [hQ]
        exact W.iret (v := 1) hx hb hr (fun t ht hW => ⟨⟨1, C_26, rfl, ⟨hT, hF, (oh_row1 (rg_w u_10 (by decide)) (rg_w (rn_leu u_20.2 (rn_lel u_20.1 (rg_c (v := 0) (lo := 0) (hi := 0) (by decide)) (rg_any _)) (rg_c (v := 4) (lo := 4) (hi := 4) (by decide))) (by decide)) (rg_w (rn_leu u_24.2 (rn_lel u_24.1 (rg_c (v := 0) (lo := 0) (hi := 0) (by decide)) (rg_any _)) (rg_c (v := 40) (lo := 40) (hi := 40) (by decide))) (by decide)))⟩, ⟨by rw [ht]; exact hP, hD⟩⟩, hS.F ht⟩) hS.2.2 dX6_row_44
      · have u_30 := hq_22.2.2 c_23
        refine lv_aload_n hx hb dX6_row_26 rfl (lv_at hl 0 rfl) ?_
        refine lv_bipush (v := (-2)) hx hb dX6_row_27 (by decide) ?_
        refine tm_V (As := [.int (-2)]) (rest := []) ⟨hx, hb, hml, hown, htg⟩ (c_X6_refuse l D E G _ a C hT ((-2) : Int32)) (cwV 1 htg (oh_gV q_296 q_298 q_0 q_66 q_299) rfl rfl rfl pdVX6_refuse ⟨Nat.le_of_ble_eq_true rfl, Nat.le_of_ble_eq_true rfl⟩) hK hP hD hG hS hA (va_recv hK hP (ci := 6) (q0 := 0) rfl (oh_wg (by decide) (sX_0 hT))) rfl hl.1 rfl (Nat.le_of_ble_eq_true rfl) dX6_row_29 ⟨Nat.le_of_ble_eq_true rfl, Nat.le_of_ble_eq_true rfl⟩ (fun r_31 C_32 H locs hq_33 hP hD hS => ?_)
        obtain ⟨hT, f_34, hq_33⟩ := hq_33
        have hF := fr_tr hF f_34 (by decide) (by decide)
        refine W.widen (k := 0) (n := 0) (Nat.le_refl _) (Nat.le_refl _) ?_
        have t_35 := hT
        rw [hQ]
        exact W.iret (v := r_31) hx hb hr (fun t ht hW => ⟨⟨r_31, C_32, rfl, ⟨hT, hF, (oh_row2 hq_33 (Or.inr (Or.inr u_30)))⟩, ⟨by rw [ht]; exact hP, hD⟩⟩, hS.F ht⟩) hS.2.2 dX6_row_32

set_option maxHeartbeats 4000000 in
set_option maxRecDepth 100000 in
theorem c_X6_set (l : Launch) (D : va_G) (E : Nat → ClassId) (G : Nat → Nat) (sz : Nat) (a : Nat → Nat) (C : Nat → va_E) (hT : TyX a E C) (x1 : Int32) (x2 : Int32) (x3 : Int64) : Met l yX6_set (oh_w yX6_set cX6_set 6 (some .int)) ({ frames := 3, cells := 0, slots := 0, locals := 63 }) (oh_Pm D E G [.ref (a 0), .int x1, .int x2, .long x3] (oh_W 35 a C) sz) (va_Qi (fun r (u : Nat → va_E) => TyX a E u ∧ fr [(7, 8), (31, 32)] [] C u ∧ True) (oh_B D (va_A (oh_W 35 a C) sz) (fun u => oh_W 35 a u)) (va_A (oh_W 35 a C) sz)) 0 0 (va_A (oh_W 35 a C) sz) := by
  refine Met.ofW (cc := cX6_set) (maxL := 6) (ret := (some .int)) (by decide) rfl ?_
  intro p e s m args below meth c s₁ B hml hv
  obtain ⟨rfl, hsz, hP, hK, hD0, hG⟩ := hv
  have hx := B.exec
  have hb := B.bytes
  have hr := B.returns
  have hts := atoms_spec (ws := (oh_w yX6_set cX6_set 6 (some .int))) B.pre
  have htg : ∀ w ∈ oh_t, w.before _ s = true := fun w h => hts w (List.mem_cons_of_mem _ h)
  have hown : s.vm.findClass RX6 = some m.cls := findClass_of_methodNamed B.named
  have hlocks := B.notSynchronized
  have hT0 := hT
  subst hsz
  have hD := hD0.self (sz := s.heap.size)
  generalize hAe : va_A (oh_W 35 a C) s.heap.size = A at hD hG ⊢
  have hA : ∀ q : Nat, s.heap.size ≤ q → A q := fun q h => by rw [← hAe]; exact Or.inr h
  have hS : va_S A s.heap s.heap [] := va_S.rf
  have hF : fr [(7, 8), (31, 32)] [] C C := fr_rf
  have hl := lv_entry ([.ref (a 0), .int x1, .int x2, .long x3]) (n := 6) (Nat.le_of_ble_eq_true rfl)
  rw [lg_entry_eq]
  generalize (lg_sl ([.ref (a 0), .int x1, .int x2, .long x3]) ++ List.replicate (6 - (lg_sl ([.ref (a 0), .int x1, .int x2, .long x3])).length) Slot.unset).toArray = ls at hl ⊢
  have hl : lv_has ls 6 [(0, .ref (a 0)), (1, .int x1), (2, .int x2), (3, .long x3)] := hl
  refine oh_genQ (fun Q hQ => ?_)
  refine lv_aload_n hx hb dX6_set_0 rfl (lv_at hl 0 rfl) ?_
  refine lv_iload_n hx hb dX6_set_1 rfl (lv_at hl 1 rfl) ?_
  refine tq_V (As := [.int x1]) (rest := []) (ws := (oh_W 35 a C)) ⟨hx, hb, hml, hown, htg⟩ (c_X6_whyNoRow l D E G a C hT x1) (cwV 1 htg (oh_gV q_308 q_310 q_1 q_66 q_311) rfl rfl rfl pdVX6_whyNoRow ⟨Nat.le_of_ble_eq_true rfl, Nat.le_of_ble_eq_true rfl⟩) hK hP hG hS (va_recv hK hP (ci := 6) (q0 := 0) rfl (oh_wg (by decide) (sX_0 hT))) rfl hl.1 rfl (Nat.le_of_ble_eq_true rfl) dX6_set_2 ⟨Nat.le_of_ble_eq_true rfl, Nat.le_of_ble_eq_true rfl⟩ (fun r_1 hq_2 => ?_)
  refine lv_istore (lv' := [(5, .int r_1), (0, .ref (a 0)), (1, .int x1), (2, .int x2), (3, .long x3)]) hx hb dX6_set_5 hl (by decide) rfl (fun ls hl => ?_)
  refine lv_iload hx hb dX6_set_7 (lv_at hl 0 rfl) ?_
  refine lv_if_eq (tgt := 19) hx hb dX6_set_9 (by decide) (fun (c_3 : r_1 = 0) => ?_) (fun (c_3 : ¬ (r_1 = 0)) => ?_)
  · have u_4 := hq_2 c_3
    refine lv_iload_n hx hb dX6_set_19 rfl (lv_at hl 3 rfl) ?_
    refine lv_iconst (v := 0) hx hb dX6_set_20 (by decide) ?_
    refine lv_aload_n hx hb dX6_set_21 rfl (lv_at hl 1 rfl) ?_
    refine va_get (D := D) (ci := 6) (v := .ref (a 4)) (C := RX6) (T := TX6) (N := 9) hx hb htg ig_6 hown hK hP 0 (oh_wg (by decide) (sX_0 hT)) rfl 4 (by decide) (htg _ q_262) (fun _ h9 => h9) rfl dX6_set_22 ?_
    refine va_get (D := D) (ci := 3) (v := .ref (a 30)) (C := RX3) (T := TX3) (N := 3) hx hb htg ig_3 hown hK hP 4 (oh_wg (by decide) (sX_4 hT)) rfl 1 (by decide) (htg _ q_201) (fun _ h9 => h9) rfl dX6_set_25 ?_
    refine lv_iload_n hx hb dX6_set_28 rfl (lv_at hl 2 rfl) ?_
    have n_5 : vp_in x1 8 := (rg_in u_4 (by decide))
    refine th_iald hx hb hK hP 30 (by decide) (sX_30 hT) n_5 dX6_set_29 ?_
    refine lv_iconst (v := 1) hx hb dX6_set_30 (by decide) ?_
    refine lv_isub hx hb dX6_set_31 ?_
    refine tq_S (As := [.int x2, .int 0, .int ((ga (C 30) (x1).toNatClampNeg) - 1)]) (rest := []) (ws := []) ⟨hx, hb, hml, hown, htg⟩ (c_X6_within l D E G x2 (0 : Int32) ((ga (C 30) (x1).toNatClampNeg) - 1)) (va_cwS 3 htg (oh_gS q_293 q_294 q_66 q_295) rfl rfl rfl pdX6_within ⟨Nat.le_of_ble_eq_true rfl, Nat.le_of_ble_eq_true rfl⟩) hK va_nil hG hS rfl hl.1 rfl (Nat.le_of_ble_eq_true rfl) dX6_set_32 ⟨Nat.le_of_ble_eq_true rfl, Nat.le_of_ble_eq_true rfl⟩ (fun r_6 hq_7 => ?_)
    refine lv_if_ne (tgt := 45) hx hb dX6_set_35 (by decide) (fun (c_8 : ¬ (r_6 = 0)) => ?_) (fun (c_8 : r_6 = 0) => ?_)
    · have u_9 := hq_7.2.1 c_8
      refine lv_aload_n hx hb dX6_set_45 rfl (lv_at hl 1 rfl) ?_
      refine va_get (D := D) (ci := 6) (v := .ref (a 4)) (C := RX6) (T := TX6) (N := 9) hx hb htg ig_6 hown hK hP 0 (oh_wg (by decide) (sX_0 hT)) rfl 4 (by decide) (htg _ q_262) (fun _ h9 => h9) rfl dX6_set_46 ?_
      refine lv_iload_n hx hb dX6_set_49 rfl (lv_at hl 2 rfl) ?_
      refine lv_iload_n hx hb dX6_set_50 rfl (lv_at hl 3 rfl) ?_
      refine lv_lload_n hx hb dX6_set_51 rfl (lv_at hl 4 rfl) ?_
      refine tm_Vv (As := [.int x1, .int x2, .long x3]) (rest := []) ⟨hx, hb, hml, hown, htg⟩ (c_X3_putElement l D E G _ a C hT x1 x2 x3 (rg_w u_4 (by decide)) (rg_w (rn_leu u_9.2 (rn_lel u_9.1 (rg_c (v := 0) (lo := 0) (hi := 0) (by decide)) (rg_any _)) (rg_sub (lo := (-1)) (hi := 39) (tA_rdc (lo := 0) (hi := 40) (tX_30 hT0) n_5 (Nat.mod_one _) (by decide)) (rg_c (v := 1) (lo := 1) (hi := 1) (by decide)) (by decide))) (by decide))) (cwV 3 htg (oh_gV q_320 q_321 q_322 q_70 q_323) rfl rfl rfl pdVX3_putElement ⟨Nat.le_of_ble_eq_true rfl, Nat.le_of_ble_eq_true rfl⟩) hK hP hD hG hS hA (va_recv hK hP (ci := 3) (q0 := 4) rfl (oh_wg (by decide) (sX_4 hT))) rfl hl.1 rfl (Nat.le_of_ble_eq_true rfl) dX6_set_52 ⟨Nat.le_of_ble_eq_true rfl, Nat.le_of_ble_eq_true rfl⟩ (fun C_11 H locs hq_12 hP hD hS => ?_)
      obtain ⟨hT, f_13, hq_12⟩ := hq_12
      have hF := fr_tr hF f_13 (by decide) (by decide)
      refine W.widen (k := 0) (n := 0) (Nat.le_refl _) (Nat.le_refl _) ?_
      have t_14 := hT
      refine lv_iconst (v := 1) hx hb dX6_set_55 (by decide) ?_
      rw [hQ]
      exact W.iret (v := 1) hx hb hr (fun t ht hW => ⟨⟨1, C_11, rfl, ⟨hT, hF, trivial⟩, ⟨by rw [ht]; exact hP, hD⟩⟩, hS.F ht⟩) hS.2.2 dX6_set_56
    · have u_15 := hq_7.2.2 c_8
      refine lv_aload_n hx hb dX6_set_38 rfl (lv_at hl 1 rfl) ?_
      refine lv_bipush (v := (-2)) hx hb dX6_set_39 (by decide) ?_
      refine tm_V (As := [.int (-2)]) (rest := []) ⟨hx, hb, hml, hown, htg⟩ (c_X6_refuse l D E G _ a C hT ((-2) : Int32)) (cwV 1 htg (oh_gV q_296 q_298 q_0 q_66 q_299) rfl rfl rfl pdVX6_refuse ⟨Nat.le_of_ble_eq_true rfl, Nat.le_of_ble_eq_true rfl⟩) hK hP hD hG hS hA (va_recv hK hP (ci := 6) (q0 := 0) rfl (oh_wg (by decide) (sX_0 hT))) rfl hl.1 rfl (Nat.le_of_ble_eq_true rfl) dX6_set_41 ⟨Nat.le_of_ble_eq_true rfl, Nat.le_of_ble_eq_true rfl⟩ (fun r_16 C_17 H locs hq_18 hP hD hS => ?_)
      obtain ⟨hT, f_19, hq_18⟩ := hq_18
      have hF := fr_tr hF f_19 (by decide) (by decide)
      refine W.widen (k := 0) (n := 0) (Nat.le_refl _) (Nat.le_refl _) ?_
      have t_20 := hT
      rw [hQ]
      exact W.iret (v := r_16) hx hb hr (fun t ht hW => ⟨⟨r_16, C_17, rfl, ⟨hT, hF, trivial⟩, ⟨by rw [ht]; exact hP, hD⟩⟩, hS.F ht⟩) hS.2.2 dX6_set_44
  · refine lv_aload_n hx hb dX6_set_12 rfl (lv_at hl 1 rfl) ?_
    refine lv_iload hx hb dX6_set_13 (lv_at hl 0 rfl) ?_
    refine tm_V (As := [.int r_1]) (rest := []) ⟨hx, hb, hml, hown, htg⟩ (c_X6_refuse l D E G _ a C hT r_1) (cwV 1 htg (oh_gV q_296 q_298 q_0 q_66 q_299) rfl rfl rfl pdVX6_refuse ⟨Nat.le_of_ble_eq_true rfl, Nat.le_of_ble_eq_true rfl⟩) hK hP hD hG hS hA (va_recv hK hP (ci := 6) (q0 := 0) rfl (oh_wg (by decide) (sX_0 hT))) rfl hl.1 rfl (Nat.le_of_ble_eq_true rfl) dX6_set_15 ⟨Nat.le_of_ble_eq_true rfl, Nat.le_of_ble_eq_true rfl⟩ (fun r_21 C_22 H locs hq_23 hP hD hS => ?_)
    obtain ⟨hT, f_24, hq_23⟩ := hq_23
    have hF := fr_tr hF f_24 (by decide) (by decide)
    refine W.widen (k := 0) (n := 0) (Nat.le_refl _) (Nat.le_refl _) ?_
    have t_25 := hT
    rw [hQ]
    exact W.iret (v := r_21) hx hb hr (fun t ht hW => ⟨⟨r_21, C_22, rfl, ⟨hT, hF, trivial⟩, ⟨by rw [ht]; exact hP, hD⟩⟩, hS.F ht⟩) hS.2.2 dX6_set_18

theorem oh_cpp {i sz n : Int32} (c : i ≤ sz - n) (hs : rg sz 0 40) (hn : rg n 0 40) : i.toInt + n.toInt ≤ 40 := by
  have h1 := Int32.le_iff_toInt_le.mp c
  have e : (sz - n).toInt = sz.toInt - n.toInt := by
    rw [Int32.toInt_sub]
    exact oh_bmod (by have := hs.1; have := hn.2; omega) (by have := hs.2; have := hn.1; omega)
  have := hs.2
  omega

set_option maxHeartbeats 4000000 in
set_option maxRecDepth 100000 in
theorem c_X6_copy (l : Launch) (D : va_G) (E : Nat → ClassId) (G : Nat → Nat) (sz : Nat) (a : Nat → Nat) (C : Nat → va_E) (hT : TyX a E C) (x1 : Int32) (x2 : Int32) (x3 : Int32) (x4 : Int32) (x5 : Int32) : Met l yX6_copy (oh_w yX6_copy cX6_copy 6 (some .int)) ({ frames := 3, cells := 0, slots := 0, locals := 64 }) (oh_Pm D E G [.ref (a 0), .int x1, .int x2, .int x3, .int x4, .int x5] (oh_W 35 a C) sz) (va_Qi (fun r (u : Nat → va_E) => TyX a E u ∧ fr [(7, 8), (31, 32)] [] C u ∧ True) (oh_B D (va_A (oh_W 35 a C) sz) (fun u => oh_W 35 a u)) (va_A (oh_W 35 a C) sz)) 0 0 (va_A (oh_W 35 a C) sz) := by
  refine Met.ofW (cc := cX6_copy) (maxL := 6) (ret := (some .int)) (by decide) rfl ?_
  intro p e s m args below meth c s₁ B hml hv
  obtain ⟨rfl, hsz, hP, hK, hD0, hG⟩ := hv
  have hx := B.exec
  have hb := B.bytes
  have hr := B.returns
  have hts := atoms_spec (ws := (oh_w yX6_copy cX6_copy 6 (some .int))) B.pre
  have htg : ∀ w ∈ oh_t, w.before _ s = true := fun w h => hts w (List.mem_cons_of_mem _ h)
  have hown : s.vm.findClass RX6 = some m.cls := findClass_of_methodNamed B.named
  have hlocks := B.notSynchronized
  have hT0 := hT
  subst hsz
  have hD := hD0.self (sz := s.heap.size)
  generalize hAe : va_A (oh_W 35 a C) s.heap.size = A at hD hG ⊢
  have hA : ∀ q : Nat, s.heap.size ≤ q → A q := fun q h => by rw [← hAe]; exact Or.inr h
  have hS : va_S A s.heap s.heap [] := va_S.rf
  have hF : fr [(7, 8), (31, 32)] [] C C := fr_rf
  have hl := lv_entry ([.ref (a 0), .int x1, .int x2, .int x3, .int x4, .int x5]) (n := 6) (Nat.le_of_ble_eq_true rfl)
  rw [lg_entry_eq]
  generalize (lg_sl ([.ref (a 0), .int x1, .int x2, .int x3, .int x4, .int x5]) ++ List.replicate (6 - (lg_sl ([.ref (a 0), .int x1, .int x2, .int x3, .int x4, .int x5])).length) Slot.unset).toArray = ls at hl ⊢
  have hl : lv_has ls 6 [(0, .ref (a 0)), (1, .int x1), (2, .int x2), (3, .int x3), (4, .int x4), (5, .int x5)] := hl
  refine oh_genQ (fun Q hQ => ?_)
  refine lv_iload_n hx hb dX6_copy_0 rfl (lv_at hl 1 rfl) ?_
  refine tq_S (As := [.int x1]) (rest := []) (ws := []) ⟨hx, hb, hml, hown, htg⟩ (c_X6_isShelf l D E G x1) (va_cwS 1 htg (oh_gS q_290 q_291 q_66 q_292) rfl rfl rfl pdX6_isShelf ⟨Nat.le_of_ble_eq_true rfl, Nat.le_of_ble_eq_true rfl⟩) hK va_nil hG hS rfl hl.1 rfl (Nat.le_of_ble_eq_true rfl) dX6_copy_1 ⟨Nat.le_of_ble_eq_true rfl, Nat.le_of_ble_eq_true rfl⟩ (fun r_1 hq_2 => ?_)
  refine lv_if_eq (tgt := 14) hx hb dX6_copy_4 (by decide) (fun (c_3 : r_1 = 0) => ?_) (fun (c_3 : ¬ (r_1 = 0)) => ?_)
  · have u_4 := hq_2.2.2 c_3
    refine lv_aload_n hx hb dX6_copy_14 rfl (lv_at hl 0 rfl) ?_
    refine lv_bipush (v := (-2)) hx hb dX6_copy_15 (by decide) ?_
    refine tm_V (As := [.int (-2)]) (rest := []) ⟨hx, hb, hml, hown, htg⟩ (c_X6_refuse l D E G _ a C hT ((-2) : Int32)) (cwV 1 htg (oh_gV q_296 q_298 q_0 q_66 q_299) rfl rfl rfl pdVX6_refuse ⟨Nat.le_of_ble_eq_true rfl, Nat.le_of_ble_eq_true rfl⟩) hK hP hD hG hS hA (va_recv hK hP (ci := 6) (q0 := 0) rfl (oh_wg (by decide) (sX_0 hT))) rfl hl.1 rfl (Nat.le_of_ble_eq_true rfl) dX6_copy_17 ⟨Nat.le_of_ble_eq_true rfl, Nat.le_of_ble_eq_true rfl⟩ (fun r_5 C_6 H locs hq_7 hP hD hS => ?_)
    obtain ⟨hT, f_8, hq_7⟩ := hq_7
    have hF := fr_tr hF f_8 (by decide) (by decide)
    refine W.widen (k := 0) (n := 0) (Nat.le_refl _) (Nat.le_refl _) ?_
    have t_9 := hT
    rw [hQ]
    exact W.iret (v := r_5) hx hb hr (fun t ht hW => ⟨⟨r_5, C_6, rfl, ⟨hT, hF, trivial⟩, ⟨by rw [ht]; exact hP, hD⟩⟩, hS.F ht⟩) hS.2.2 dX6_copy_20
  · have u_10 := hq_2.2.1 c_3
    refine lv_iload_n hx hb dX6_copy_7 rfl (lv_at hl 2 rfl) ?_
    refine tq_S (As := [.int x2]) (rest := []) (ws := []) ⟨hx, hb, hml, hown, htg⟩ (c_X6_isShelf l D E G x2) (va_cwS 1 htg (oh_gS q_290 q_291 q_66 q_292) rfl rfl rfl pdX6_isShelf ⟨Nat.le_of_ble_eq_true rfl, Nat.le_of_ble_eq_true rfl⟩) hK va_nil hG hS rfl hl.1 rfl (Nat.le_of_ble_eq_true rfl) dX6_copy_8 ⟨Nat.le_of_ble_eq_true rfl, Nat.le_of_ble_eq_true rfl⟩ (fun r_11 hq_12 => ?_)
    refine lv_if_ne (tgt := 21) hx hb dX6_copy_11 (by decide) (fun (c_13 : ¬ (r_11 = 0)) => ?_) (fun (c_13 : r_11 = 0) => ?_)
    · have u_14 := hq_12.2.1 c_13
      refine lv_aload_n hx hb dX6_copy_21 rfl (lv_at hl 0 rfl) ?_
      refine va_get (D := D) (ci := 6) (v := .ref (a 4)) (C := RX6) (T := TX6) (N := 9) hx hb htg ig_6 hown hK hP 0 (oh_wg (by decide) (sX_0 hT)) rfl 4 (by decide) (htg _ q_262) (fun _ h9 => h9) rfl dX6_copy_22 ?_
      refine lv_iload_n hx hb dX6_copy_25 rfl (lv_at hl 1 rfl) ?_
      refine tq_V (As := [.int x1]) (rest := []) (ws := (oh_W 35 a C)) ⟨hx, hb, hml, hown, htg⟩ (c_X3_holdsBridge l D E G a C hT x1 (rg_w u_10 (by decide))) (cwV 1 htg (oh_gV q_312 q_313 q_314 q_70 q_315) rfl rfl rfl pdVX3_holdsBridge ⟨Nat.le_of_ble_eq_true rfl, Nat.le_of_ble_eq_true rfl⟩) hK hP hG hS (va_recv hK hP (ci := 3) (q0 := 4) rfl (oh_wg (by decide) (sX_4 hT))) rfl hl.1 rfl (Nat.le_of_ble_eq_true rfl) dX6_copy_26 ⟨Nat.le_of_ble_eq_true rfl, Nat.le_of_ble_eq_true rfl⟩ (fun r_15 hq_16 => ?_)
      refine lv_if_ne (tgt := 55) hx hb dX6_copy_29 (by decide) (fun (c_17 : ¬ (r_15 = 0)) => ?_) (fun (c_17 : r_15 = 0) => ?_)
      · refine lv_aload_n hx hb dX6_copy_55 rfl (lv_at hl 0 rfl) ?_
        refine lv_bipush (v := (-3)) hx hb dX6_copy_56 (by decide) ?_
        refine tm_V (As := [.int (-3)]) (rest := []) ⟨hx, hb, hml, hown, htg⟩ (c_X6_refuse l D E G _ a C hT ((-3) : Int32)) (cwV 1 htg (oh_gV q_296 q_298 q_0 q_66 q_299) rfl rfl rfl pdVX6_refuse ⟨Nat.le_of_ble_eq_true rfl, Nat.le_of_ble_eq_true rfl⟩) hK hP hD hG hS hA (va_recv hK hP (ci := 6) (q0 := 0) rfl (oh_wg (by decide) (sX_0 hT))) rfl hl.1 rfl (Nat.le_of_ble_eq_true rfl) dX6_copy_58 ⟨Nat.le_of_ble_eq_true rfl, Nat.le_of_ble_eq_true rfl⟩ (fun r_18 C_19 H locs hq_20 hP hD hS => ?_)
        obtain ⟨hT, f_21, hq_20⟩ := hq_20
        have hF := fr_tr hF f_21 (by decide) (by decide)
        refine W.widen (k := 0) (n := 0) (Nat.le_refl _) (Nat.le_refl _) ?_
        have t_22 := hT
        rw [hQ]
        exact W.iret (v := r_18) hx hb hr (fun t ht hW => ⟨⟨r_18, C_19, rfl, ⟨hT, hF, trivial⟩, ⟨by rw [ht]; exact hP, hD⟩⟩, hS.F ht⟩) hS.2.2 dX6_copy_61
      · refine lv_aload_n hx hb dX6_copy_32 rfl (lv_at hl 0 rfl) ?_
        refine va_get (D := D) (ci := 6) (v := .ref (a 4)) (C := RX6) (T := TX6) (N := 9) hx hb htg ig_6 hown hK hP 0 (oh_wg (by decide) (sX_0 hT)) rfl 4 (by decide) (htg _ q_262) (fun _ h9 => h9) rfl dX6_copy_33 ?_
        refine lv_iload_n hx hb dX6_copy_36 rfl (lv_at hl 2 rfl) ?_
        refine tq_V (As := [.int x2]) (rest := []) (ws := (oh_W 35 a C)) ⟨hx, hb, hml, hown, htg⟩ (c_X3_holdsBridge l D E G a C hT x2 (rg_w u_14 (by decide))) (cwV 1 htg (oh_gV q_312 q_313 q_314 q_70 q_315) rfl rfl rfl pdVX3_holdsBridge ⟨Nat.le_of_ble_eq_true rfl, Nat.le_of_ble_eq_true rfl⟩) hK hP hG hS (va_recv hK hP (ci := 3) (q0 := 4) rfl (oh_wg (by decide) (sX_4 hT))) rfl hl.1 rfl (Nat.le_of_ble_eq_true rfl) dX6_copy_37 ⟨Nat.le_of_ble_eq_true rfl, Nat.le_of_ble_eq_true rfl⟩ (fun r_23 hq_24 => ?_)
        refine lv_if_ne (tgt := 55) hx hb dX6_copy_40 (by decide) (fun (c_25 : ¬ (r_23 = 0)) => ?_) (fun (c_25 : r_23 = 0) => ?_)
        · refine lv_aload_n hx hb dX6_copy_55 rfl (lv_at hl 0 rfl) ?_
          refine lv_bipush (v := (-3)) hx hb dX6_copy_56 (by decide) ?_
          refine tm_V (As := [.int (-3)]) (rest := []) ⟨hx, hb, hml, hown, htg⟩ (c_X6_refuse l D E G _ a C hT ((-3) : Int32)) (cwV 1 htg (oh_gV q_296 q_298 q_0 q_66 q_299) rfl rfl rfl pdVX6_refuse ⟨Nat.le_of_ble_eq_true rfl, Nat.le_of_ble_eq_true rfl⟩) hK hP hD hG hS hA (va_recv hK hP (ci := 6) (q0 := 0) rfl (oh_wg (by decide) (sX_0 hT))) rfl hl.1 rfl (Nat.le_of_ble_eq_true rfl) dX6_copy_58 ⟨Nat.le_of_ble_eq_true rfl, Nat.le_of_ble_eq_true rfl⟩ (fun r_26 C_27 H locs hq_28 hP hD hS => ?_)
          obtain ⟨hT, f_29, hq_28⟩ := hq_28
          have hF := fr_tr hF f_29 (by decide) (by decide)
          refine W.widen (k := 0) (n := 0) (Nat.le_refl _) (Nat.le_refl _) ?_
          have t_30 := hT
          rw [hQ]
          exact W.iret (v := r_26) hx hb hr (fun t ht hW => ⟨⟨r_26, C_27, rfl, ⟨hT, hF, trivial⟩, ⟨by rw [ht]; exact hP, hD⟩⟩, hS.F ht⟩) hS.2.2 dX6_copy_61
        · refine lv_aload_n hx hb dX6_copy_43 rfl (lv_at hl 0 rfl) ?_
          refine va_get (D := D) (ci := 6) (v := .ref (a 4)) (C := RX6) (T := TX6) (N := 9) hx hb htg ig_6 hown hK hP 0 (oh_wg (by decide) (sX_0 hT)) rfl 4 (by decide) (htg _ q_262) (fun _ h9 => h9) rfl dX6_copy_44 ?_
          refine lv_iload_n hx hb dX6_copy_47 rfl (lv_at hl 1 rfl) ?_
          refine lv_iload_n hx hb dX6_copy_48 rfl (lv_at hl 2 rfl) ?_
          refine tq_V (As := [.int x1, .int x2]) (rest := []) (ws := (oh_W 35 a C)) ⟨hx, hb, hml, hown, htg⟩ (c_X3_holdsUnlikeRows l D E G a C hT x1 x2 (rg_w u_10 (by decide)) (rg_w u_14 (by decide))) (cwV 2 htg (oh_gV q_331 q_332 q_333 q_70 q_334) rfl rfl rfl pdVX3_holdsUnlikeRows ⟨Nat.le_of_ble_eq_true rfl, Nat.le_of_ble_eq_true rfl⟩) hK hP hG hS (va_recv hK hP (ci := 3) (q0 := 4) rfl (oh_wg (by decide) (sX_4 hT))) rfl hl.1 rfl (Nat.le_of_ble_eq_true rfl) dX6_copy_49 ⟨Nat.le_of_ble_eq_true rfl, Nat.le_of_ble_eq_true rfl⟩ (fun r_31 hq_32 => ?_)
          refine lv_if_eq (tgt := 62) hx hb dX6_copy_52 (by decide) (fun (c_33 : r_31 = 0) => ?_) (fun (c_33 : ¬ (r_31 = 0)) => ?_)
          · refine lv_aload_n hx hb dX6_copy_62 rfl (lv_at hl 0 rfl) ?_
            refine va_get (D := D) (ci := 6) (v := .ref (a 4)) (C := RX6) (T := TX6) (N := 9) hx hb htg ig_6 hown hK hP 0 (oh_wg (by decide) (sX_0 hT)) rfl 4 (by decide) (htg _ q_262) (fun _ h9 => h9) rfl dX6_copy_63 ?_
            refine lv_iload_n hx hb dX6_copy_66 rfl (lv_at hl 1 rfl) ?_
            refine tq_V (As := [.int x1]) (rest := []) (ws := (oh_W 35 a C)) ⟨hx, hb, hml, hown, htg⟩ (c_X3_holdsNothing l D E G a C hT x1 (rg_w u_10 (by decide))) (cwV 1 htg (oh_gV q_316 q_317 q_318 q_70 q_319) rfl rfl rfl pdVX3_holdsNothing ⟨Nat.le_of_ble_eq_true rfl, Nat.le_of_ble_eq_true rfl⟩) hK hP hG hS (va_recv hK hP (ci := 3) (q0 := 4) rfl (oh_wg (by decide) (sX_4 hT))) rfl hl.1 rfl (Nat.le_of_ble_eq_true rfl) dX6_copy_67 ⟨Nat.le_of_ble_eq_true rfl, Nat.le_of_ble_eq_true rfl⟩ (fun r_34 hq_35 => ?_)
            refine lv_if_ne (tgt := 84) hx hb dX6_copy_70 (by decide) (fun (c_36 : ¬ (r_34 = 0)) => ?_) (fun (c_36 : r_34 = 0) => ?_)
            · refine lv_aload_n hx hb dX6_copy_84 rfl (lv_at hl 0 rfl) ?_
              refine lv_bipush (v := (-4)) hx hb dX6_copy_85 (by decide) ?_
              refine tm_V (As := [.int (-4)]) (rest := []) ⟨hx, hb, hml, hown, htg⟩ (c_X6_refuse l D E G _ a C hT ((-4) : Int32)) (cwV 1 htg (oh_gV q_296 q_298 q_0 q_66 q_299) rfl rfl rfl pdVX6_refuse ⟨Nat.le_of_ble_eq_true rfl, Nat.le_of_ble_eq_true rfl⟩) hK hP hD hG hS hA (va_recv hK hP (ci := 6) (q0 := 0) rfl (oh_wg (by decide) (sX_0 hT))) rfl hl.1 rfl (Nat.le_of_ble_eq_true rfl) dX6_copy_87 ⟨Nat.le_of_ble_eq_true rfl, Nat.le_of_ble_eq_true rfl⟩ (fun r_37 C_38 H locs hq_39 hP hD hS => ?_)
              obtain ⟨hT, f_40, hq_39⟩ := hq_39
              have hF := fr_tr hF f_40 (by decide) (by decide)
              refine W.widen (k := 0) (n := 0) (Nat.le_refl _) (Nat.le_refl _) ?_
              have t_41 := hT
              rw [hQ]
              exact W.iret (v := r_37) hx hb hr (fun t ht hW => ⟨⟨r_37, C_38, rfl, ⟨hT, hF, trivial⟩, ⟨by rw [ht]; exact hP, hD⟩⟩, hS.F ht⟩) hS.2.2 dX6_copy_90
            · refine lv_aload_n hx hb dX6_copy_73 rfl (lv_at hl 0 rfl) ?_
              refine va_get (D := D) (ci := 6) (v := .ref (a 4)) (C := RX6) (T := TX6) (N := 9) hx hb htg ig_6 hown hK hP 0 (oh_wg (by decide) (sX_0 hT)) rfl 4 (by decide) (htg _ q_262) (fun _ h9 => h9) rfl dX6_copy_74 ?_
              refine lv_iload_n hx hb dX6_copy_77 rfl (lv_at hl 2 rfl) ?_
              refine tq_V (As := [.int x2]) (rest := []) (ws := (oh_W 35 a C)) ⟨hx, hb, hml, hown, htg⟩ (c_X3_holdsNothing l D E G a C hT x2 (rg_w u_14 (by decide))) (cwV 1 htg (oh_gV q_316 q_317 q_318 q_70 q_319) rfl rfl rfl pdVX3_holdsNothing ⟨Nat.le_of_ble_eq_true rfl, Nat.le_of_ble_eq_true rfl⟩) hK hP hG hS (va_recv hK hP (ci := 3) (q0 := 4) rfl (oh_wg (by decide) (sX_4 hT))) rfl hl.1 rfl (Nat.le_of_ble_eq_true rfl) dX6_copy_78 ⟨Nat.le_of_ble_eq_true rfl, Nat.le_of_ble_eq_true rfl⟩ (fun r_42 hq_43 => ?_)
              refine lv_if_eq (tgt := 91) hx hb dX6_copy_81 (by decide) (fun (c_44 : r_42 = 0) => ?_) (fun (c_44 : ¬ (r_42 = 0)) => ?_)
              · refine lv_iload hx hb dX6_copy_91 (lv_at hl 5 rfl) ?_
                refine lv_iconst (v := 0) hx hb dX6_copy_93 (by decide) ?_
                refine lv_bipush (v := 40) hx hb dX6_copy_94 (by decide) ?_
                refine tq_S (As := [.int x5, .int 0, .int 40]) (rest := []) (ws := []) ⟨hx, hb, hml, hown, htg⟩ (c_X6_within l D E G x5 (0 : Int32) (40 : Int32)) (va_cwS 3 htg (oh_gS q_293 q_294 q_66 q_295) rfl rfl rfl pdX6_within ⟨Nat.le_of_ble_eq_true rfl, Nat.le_of_ble_eq_true rfl⟩) hK va_nil hG hS rfl hl.1 rfl (Nat.le_of_ble_eq_true rfl) dX6_copy_96 ⟨Nat.le_of_ble_eq_true rfl, Nat.le_of_ble_eq_true rfl⟩ (fun r_45 hq_46 => ?_)
                refine lv_if_eq (tgt := 143) hx hb dX6_copy_99 (by decide) (fun (c_47 : r_45 = 0) => ?_) (fun (c_47 : ¬ (r_45 = 0)) => ?_)
                · have u_48 := hq_46.2.2 c_47
                  refine lv_aload_n hx hb dX6_copy_143 rfl (lv_at hl 0 rfl) ?_
                  refine lv_bipush (v := (-2)) hx hb dX6_copy_144 (by decide) ?_
                  refine tm_V (As := [.int (-2)]) (rest := []) ⟨hx, hb, hml, hown, htg⟩ (c_X6_refuse l D E G _ a C hT ((-2) : Int32)) (cwV 1 htg (oh_gV q_296 q_298 q_0 q_66 q_299) rfl rfl rfl pdVX6_refuse ⟨Nat.le_of_ble_eq_true rfl, Nat.le_of_ble_eq_true rfl⟩) hK hP hD hG hS hA (va_recv hK hP (ci := 6) (q0 := 0) rfl (oh_wg (by decide) (sX_0 hT))) rfl hl.1 rfl (Nat.le_of_ble_eq_true rfl) dX6_copy_146 ⟨Nat.le_of_ble_eq_true rfl, Nat.le_of_ble_eq_true rfl⟩ (fun r_49 C_50 H locs hq_51 hP hD hS => ?_)
                  obtain ⟨hT, f_52, hq_51⟩ := hq_51
                  have hF := fr_tr hF f_52 (by decide) (by decide)
                  refine W.widen (k := 0) (n := 0) (Nat.le_refl _) (Nat.le_refl _) ?_
                  have t_53 := hT
                  rw [hQ]
                  exact W.iret (v := r_49) hx hb hr (fun t ht hW => ⟨⟨r_49, C_50, rfl, ⟨hT, hF, trivial⟩, ⟨by rw [ht]; exact hP, hD⟩⟩, hS.F ht⟩) hS.2.2 dX6_copy_149
                · have u_54 := hq_46.2.1 c_47
                  refine lv_iload_n hx hb dX6_copy_102 rfl (lv_at hl 3 rfl) ?_
                  refine lv_iconst (v := 0) hx hb dX6_copy_103 (by decide) ?_
                  refine lv_aload_n hx hb dX6_copy_104 rfl (lv_at hl 0 rfl) ?_
                  refine va_get (D := D) (ci := 6) (v := .ref (a 4)) (C := RX6) (T := TX6) (N := 9) hx hb htg ig_6 hown hK hP 0 (oh_wg (by decide) (sX_0 hT)) rfl 4 (by decide) (htg _ q_262) (fun _ h9 => h9) rfl dX6_copy_105 ?_
                  refine va_get (D := D) (ci := 3) (v := .ref (a 30)) (C := RX3) (T := TX3) (N := 3) hx hb htg ig_3 hown hK hP 4 (oh_wg (by decide) (sX_4 hT)) rfl 1 (by decide) (htg _ q_201) (fun _ h9 => h9) rfl dX6_copy_108 ?_
                  refine lv_iload_n hx hb dX6_copy_111 rfl (lv_at hl 1 rfl) ?_
                  have n_55 : vp_in x1 8 := (rg_in u_10 (by decide))
                  refine th_iald hx hb hK hP 30 (by decide) (sX_30 hT) n_55 dX6_copy_112 ?_
                  refine lv_iload hx hb dX6_copy_113 (lv_at hl 5 rfl) ?_
                  refine lv_isub hx hb dX6_copy_115 ?_
                  refine tq_S (As := [.int x3, .int 0, .int ((ga (C 30) (x1).toNatClampNeg) - x5)]) (rest := []) (ws := []) ⟨hx, hb, hml, hown, htg⟩ (c_X6_within l D E G x3 (0 : Int32) ((ga (C 30) (x1).toNatClampNeg) - x5)) (va_cwS 3 htg (oh_gS q_293 q_294 q_66 q_295) rfl rfl rfl pdX6_within ⟨Nat.le_of_ble_eq_true rfl, Nat.le_of_ble_eq_true rfl⟩) hK va_nil hG hS rfl hl.1 rfl (Nat.le_of_ble_eq_true rfl) dX6_copy_116 ⟨Nat.le_of_ble_eq_true rfl, Nat.le_of_ble_eq_true rfl⟩ (fun r_56 hq_57 => ?_)
                  refine lv_if_eq (tgt := 143) hx hb dX6_copy_119 (by decide) (fun (c_58 : r_56 = 0) => ?_) (fun (c_58 : ¬ (r_56 = 0)) => ?_)
                  · have u_59 := hq_57.2.2 c_58
                    refine lv_aload_n hx hb dX6_copy_143 rfl (lv_at hl 0 rfl) ?_
                    refine lv_bipush (v := (-2)) hx hb dX6_copy_144 (by decide) ?_
                    refine tm_V (As := [.int (-2)]) (rest := []) ⟨hx, hb, hml, hown, htg⟩ (c_X6_refuse l D E G _ a C hT ((-2) : Int32)) (cwV 1 htg (oh_gV q_296 q_298 q_0 q_66 q_299) rfl rfl rfl pdVX6_refuse ⟨Nat.le_of_ble_eq_true rfl, Nat.le_of_ble_eq_true rfl⟩) hK hP hD hG hS hA (va_recv hK hP (ci := 6) (q0 := 0) rfl (oh_wg (by decide) (sX_0 hT))) rfl hl.1 rfl (Nat.le_of_ble_eq_true rfl) dX6_copy_146 ⟨Nat.le_of_ble_eq_true rfl, Nat.le_of_ble_eq_true rfl⟩ (fun r_60 C_61 H locs hq_62 hP hD hS => ?_)
                    obtain ⟨hT, f_63, hq_62⟩ := hq_62
                    have hF := fr_tr hF f_63 (by decide) (by decide)
                    refine W.widen (k := 0) (n := 0) (Nat.le_refl _) (Nat.le_refl _) ?_
                    have t_64 := hT
                    rw [hQ]
                    exact W.iret (v := r_60) hx hb hr (fun t ht hW => ⟨⟨r_60, C_61, rfl, ⟨hT, hF, trivial⟩, ⟨by rw [ht]; exact hP, hD⟩⟩, hS.F ht⟩) hS.2.2 dX6_copy_149
                  · have u_65 := hq_57.2.1 c_58
                    refine lv_iload hx hb dX6_copy_122 (lv_at hl 4 rfl) ?_
                    refine lv_iconst (v := 0) hx hb dX6_copy_124 (by decide) ?_
                    refine lv_aload_n hx hb dX6_copy_125 rfl (lv_at hl 0 rfl) ?_
                    refine va_get (D := D) (ci := 6) (v := .ref (a 4)) (C := RX6) (T := TX6) (N := 9) hx hb htg ig_6 hown hK hP 0 (oh_wg (by decide) (sX_0 hT)) rfl 4 (by decide) (htg _ q_262) (fun _ h9 => h9) rfl dX6_copy_126 ?_
                    refine va_get (D := D) (ci := 3) (v := .ref (a 30)) (C := RX3) (T := TX3) (N := 3) hx hb htg ig_3 hown hK hP 4 (oh_wg (by decide) (sX_4 hT)) rfl 1 (by decide) (htg _ q_201) (fun _ h9 => h9) rfl dX6_copy_129 ?_
                    refine lv_iload_n hx hb dX6_copy_132 rfl (lv_at hl 2 rfl) ?_
                    have n_66 : vp_in x2 8 := (rg_in u_14 (by decide))
                    refine th_iald hx hb hK hP 30 (by decide) (sX_30 hT) n_66 dX6_copy_133 ?_
                    refine lv_iload hx hb dX6_copy_134 (lv_at hl 5 rfl) ?_
                    refine lv_isub hx hb dX6_copy_136 ?_
                    refine tq_S (As := [.int x4, .int 0, .int ((ga (C 30) (x2).toNatClampNeg) - x5)]) (rest := []) (ws := []) ⟨hx, hb, hml, hown, htg⟩ (c_X6_within l D E G x4 (0 : Int32) ((ga (C 30) (x2).toNatClampNeg) - x5)) (va_cwS 3 htg (oh_gS q_293 q_294 q_66 q_295) rfl rfl rfl pdX6_within ⟨Nat.le_of_ble_eq_true rfl, Nat.le_of_ble_eq_true rfl⟩) hK va_nil hG hS rfl hl.1 rfl (Nat.le_of_ble_eq_true rfl) dX6_copy_137 ⟨Nat.le_of_ble_eq_true rfl, Nat.le_of_ble_eq_true rfl⟩ (fun r_67 hq_68 => ?_)
                    refine lv_if_ne (tgt := 150) hx hb dX6_copy_140 (by decide) (fun (c_69 : ¬ (r_67 = 0)) => ?_) (fun (c_69 : r_67 = 0) => ?_)
                    · have u_70 := hq_68.2.1 c_69
                      refine lv_aload_n hx hb dX6_copy_150 rfl (lv_at hl 0 rfl) ?_
                      refine va_get (D := D) (ci := 6) (v := .ref (a 4)) (C := RX6) (T := TX6) (N := 9) hx hb htg ig_6 hown hK hP 0 (oh_wg (by decide) (sX_0 hT)) rfl 4 (by decide) (htg _ q_262) (fun _ h9 => h9) rfl dX6_copy_151 ?_
                      refine lv_iload_n hx hb dX6_copy_154 rfl (lv_at hl 1 rfl) ?_
                      refine lv_iload_n hx hb dX6_copy_155 rfl (lv_at hl 2 rfl) ?_
                      refine lv_iload_n hx hb dX6_copy_156 rfl (lv_at hl 3 rfl) ?_
                      refine lv_iload hx hb dX6_copy_157 (lv_at hl 4 rfl) ?_
                      refine lv_iload hx hb dX6_copy_159 (lv_at hl 5 rfl) ?_
                      refine tm_Vv (As := [.int x1, .int x2, .int x3, .int x4, .int x5]) (rest := []) ⟨hx, hb, hml, hown, htg⟩ (c_X3_copyElements l D E G _ a C hT x1 x2 x3 x4 x5 (rg_w u_10 (by decide)) (rg_w u_14 (by decide)) (rg_w (rn_leu u_65.2 (rn_lel u_65.1 (rg_c (v := 0) (lo := 0) (hi := 0) (by decide)) (rg_any _)) (rg_sub (lo := (-40)) (hi := 40) (tA_rdc (lo := 0) (hi := 40) (tX_30 hT0) n_55 (Nat.mod_one _) (by decide)) (rn_leu u_54.2 (rn_lel u_54.1 (rg_c (v := 0) (lo := 0) (hi := 0) (by decide)) (rg_any _)) (rg_c (v := 40) (lo := 40) (hi := 40) (by decide))) (by decide))) (by decide)) (rg_w (rn_leu u_70.2 (rn_lel u_70.1 (rg_c (v := 0) (lo := 0) (hi := 0) (by decide)) (rg_any _)) (rg_sub (lo := (-40)) (hi := 40) (tA_rdc (lo := 0) (hi := 40) (tX_30 hT0) n_66 (Nat.mod_one _) (by decide)) (rn_leu u_54.2 (rn_lel u_54.1 (rg_c (v := 0) (lo := 0) (hi := 0) (by decide)) (rg_any _)) (rg_c (v := 40) (lo := 40) (hi := 40) (by decide))) (by decide))) (by decide)) (rg_w (rn_leu u_54.2 (rn_lel u_54.1 (rg_c (v := 0) (lo := 0) (hi := 0) (by decide)) (rg_any _)) (rg_c (v := 40) (lo := 40) (hi := 40) (by decide))) (by decide)) (oh_cpp u_65.2 (tA_rdc (lo := 0) (hi := 40) (tX_30 hT0) n_55 (Nat.mod_one _) (by decide)) (rn_leu u_54.2 (rn_lel u_54.1 (rg_c (v := 0) (lo := 0) (hi := 0) (by decide)) (rg_any _)) (rg_c (v := 40) (lo := 40) (hi := 40) (by decide)))) (oh_cpp u_70.2 (tA_rdc (lo := 0) (hi := 40) (tX_30 hT0) n_66 (Nat.mod_one _) (by decide)) (rn_leu u_54.2 (rn_lel u_54.1 (rg_c (v := 0) (lo := 0) (hi := 0) (by decide)) (rg_any _)) (rg_c (v := 40) (lo := 40) (hi := 40) (by decide))))) (cwV 5 htg (oh_gV q_341 q_342 q_343 q_70 q_344) rfl rfl rfl pdVX3_copyElements ⟨Nat.le_of_ble_eq_true rfl, Nat.le_of_ble_eq_true rfl⟩) hK hP hD hG hS hA (va_recv hK hP (ci := 3) (q0 := 4) rfl (oh_wg (by decide) (sX_4 hT))) rfl hl.1 rfl (Nat.le_of_ble_eq_true rfl) dX6_copy_161 ⟨Nat.le_of_ble_eq_true rfl, Nat.le_of_ble_eq_true rfl⟩ (fun C_72 H locs hq_73 hP hD hS => ?_)
                      obtain ⟨hT, f_74, hq_73⟩ := hq_73
                      have hF := fr_tr hF f_74 (by decide) (by decide)
                      refine W.widen (k := 0) (n := 0) (Nat.le_refl _) (Nat.le_refl _) ?_
                      have t_75 := hT
                      refine lv_iload hx hb dX6_copy_164 (lv_at hl 5 rfl) ?_
                      rw [hQ]
                      exact W.iret (v := x5) hx hb hr (fun t ht hW => ⟨⟨x5, C_72, rfl, ⟨hT, hF, trivial⟩, ⟨by rw [ht]; exact hP, hD⟩⟩, hS.F ht⟩) hS.2.2 dX6_copy_166
                    · have u_76 := hq_68.2.2 c_69
                      refine lv_aload_n hx hb dX6_copy_143 rfl (lv_at hl 0 rfl) ?_
                      refine lv_bipush (v := (-2)) hx hb dX6_copy_144 (by decide) ?_
                      refine tm_V (As := [.int (-2)]) (rest := []) ⟨hx, hb, hml, hown, htg⟩ (c_X6_refuse l D E G _ a C hT ((-2) : Int32)) (cwV 1 htg (oh_gV q_296 q_298 q_0 q_66 q_299) rfl rfl rfl pdVX6_refuse ⟨Nat.le_of_ble_eq_true rfl, Nat.le_of_ble_eq_true rfl⟩) hK hP hD hG hS hA (va_recv hK hP (ci := 6) (q0 := 0) rfl (oh_wg (by decide) (sX_0 hT))) rfl hl.1 rfl (Nat.le_of_ble_eq_true rfl) dX6_copy_146 ⟨Nat.le_of_ble_eq_true rfl, Nat.le_of_ble_eq_true rfl⟩ (fun r_77 C_78 H locs hq_79 hP hD hS => ?_)
                      obtain ⟨hT, f_80, hq_79⟩ := hq_79
                      have hF := fr_tr hF f_80 (by decide) (by decide)
                      refine W.widen (k := 0) (n := 0) (Nat.le_refl _) (Nat.le_refl _) ?_
                      have t_81 := hT
                      rw [hQ]
                      exact W.iret (v := r_77) hx hb hr (fun t ht hW => ⟨⟨r_77, C_78, rfl, ⟨hT, hF, trivial⟩, ⟨by rw [ht]; exact hP, hD⟩⟩, hS.F ht⟩) hS.2.2 dX6_copy_149
              · refine lv_aload_n hx hb dX6_copy_84 rfl (lv_at hl 0 rfl) ?_
                refine lv_bipush (v := (-4)) hx hb dX6_copy_85 (by decide) ?_
                refine tm_V (As := [.int (-4)]) (rest := []) ⟨hx, hb, hml, hown, htg⟩ (c_X6_refuse l D E G _ a C hT ((-4) : Int32)) (cwV 1 htg (oh_gV q_296 q_298 q_0 q_66 q_299) rfl rfl rfl pdVX6_refuse ⟨Nat.le_of_ble_eq_true rfl, Nat.le_of_ble_eq_true rfl⟩) hK hP hD hG hS hA (va_recv hK hP (ci := 6) (q0 := 0) rfl (oh_wg (by decide) (sX_0 hT))) rfl hl.1 rfl (Nat.le_of_ble_eq_true rfl) dX6_copy_87 ⟨Nat.le_of_ble_eq_true rfl, Nat.le_of_ble_eq_true rfl⟩ (fun r_82 C_83 H locs hq_84 hP hD hS => ?_)
                obtain ⟨hT, f_85, hq_84⟩ := hq_84
                have hF := fr_tr hF f_85 (by decide) (by decide)
                refine W.widen (k := 0) (n := 0) (Nat.le_refl _) (Nat.le_refl _) ?_
                have t_86 := hT
                rw [hQ]
                exact W.iret (v := r_82) hx hb hr (fun t ht hW => ⟨⟨r_82, C_83, rfl, ⟨hT, hF, trivial⟩, ⟨by rw [ht]; exact hP, hD⟩⟩, hS.F ht⟩) hS.2.2 dX6_copy_90
          · refine lv_aload_n hx hb dX6_copy_55 rfl (lv_at hl 0 rfl) ?_
            refine lv_bipush (v := (-3)) hx hb dX6_copy_56 (by decide) ?_
            refine tm_V (As := [.int (-3)]) (rest := []) ⟨hx, hb, hml, hown, htg⟩ (c_X6_refuse l D E G _ a C hT ((-3) : Int32)) (cwV 1 htg (oh_gV q_296 q_298 q_0 q_66 q_299) rfl rfl rfl pdVX6_refuse ⟨Nat.le_of_ble_eq_true rfl, Nat.le_of_ble_eq_true rfl⟩) hK hP hD hG hS hA (va_recv hK hP (ci := 6) (q0 := 0) rfl (oh_wg (by decide) (sX_0 hT))) rfl hl.1 rfl (Nat.le_of_ble_eq_true rfl) dX6_copy_58 ⟨Nat.le_of_ble_eq_true rfl, Nat.le_of_ble_eq_true rfl⟩ (fun r_87 C_88 H locs hq_89 hP hD hS => ?_)
            obtain ⟨hT, f_90, hq_89⟩ := hq_89
            have hF := fr_tr hF f_90 (by decide) (by decide)
            refine W.widen (k := 0) (n := 0) (Nat.le_refl _) (Nat.le_refl _) ?_
            have t_91 := hT
            rw [hQ]
            exact W.iret (v := r_87) hx hb hr (fun t ht hW => ⟨⟨r_87, C_88, rfl, ⟨hT, hF, trivial⟩, ⟨by rw [ht]; exact hP, hD⟩⟩, hS.F ht⟩) hS.2.2 dX6_copy_61
    · have u_92 := hq_12.2.2 c_13
      refine lv_aload_n hx hb dX6_copy_14 rfl (lv_at hl 0 rfl) ?_
      refine lv_bipush (v := (-2)) hx hb dX6_copy_15 (by decide) ?_
      refine tm_V (As := [.int (-2)]) (rest := []) ⟨hx, hb, hml, hown, htg⟩ (c_X6_refuse l D E G _ a C hT ((-2) : Int32)) (cwV 1 htg (oh_gV q_296 q_298 q_0 q_66 q_299) rfl rfl rfl pdVX6_refuse ⟨Nat.le_of_ble_eq_true rfl, Nat.le_of_ble_eq_true rfl⟩) hK hP hD hG hS hA (va_recv hK hP (ci := 6) (q0 := 0) rfl (oh_wg (by decide) (sX_0 hT))) rfl hl.1 rfl (Nat.le_of_ble_eq_true rfl) dX6_copy_17 ⟨Nat.le_of_ble_eq_true rfl, Nat.le_of_ble_eq_true rfl⟩ (fun r_93 C_94 H locs hq_95 hP hD hS => ?_)
      obtain ⟨hT, f_96, hq_95⟩ := hq_95
      have hF := fr_tr hF f_96 (by decide) (by decide)
      refine W.widen (k := 0) (n := 0) (Nat.le_refl _) (Nat.le_refl _) ?_
      have t_97 := hT
      rw [hQ]
      exact W.iret (v := r_93) hx hb hr (fun t ht hW => ⟨⟨r_93, C_94, rfl, ⟨hT, hF, trivial⟩, ⟨by rw [ht]; exact hP, hD⟩⟩, hS.F ht⟩) hS.2.2 dX6_copy_20

set_option maxHeartbeats 4000000 in
set_option maxRecDepth 100000 in
theorem c_X6_element (l : Launch) (D : va_G) (E : Nat → ClassId) (G : Nat → Nat) (a : Nat → Nat) (C : Nat → va_E) (hT : TyX a E C) (x1 : Int32) (x2 : Int32) : Met l yX6_element (oh_w yX6_element cX6_element 3 (some .long)) ({ frames := 2, cells := 0, slots := 0, locals := 44 }) (oh_Pp D E G [.ref (a 0), .int x1, .int x2] (oh_W 35 a C)) (vp_Sl (fun r => True)) 0 0 (fun _ => False) := by
  refine Met.ofW (cc := cX6_element) (maxL := 3) (ret := (some .long)) (by decide) rfl ?_
  intro p e s m args below meth c s₁ B hml hv
  obtain ⟨rfl, hP, hK, hG⟩ := hv
  have hx := B.exec
  have hb := B.bytes
  have hr := B.returns
  have hts := atoms_spec (ws := (oh_w yX6_element cX6_element 3 (some .long))) B.pre
  have htg : ∀ w ∈ oh_t, w.before _ s = true := fun w h => hts w (List.mem_cons_of_mem _ h)
  have hown : s.vm.findClass RX6 = some m.cls := findClass_of_methodNamed B.named
  have hlocks := B.notSynchronized
  have hT0 := hT
  have hS : va_S (fun _ => False) s.heap s.heap [] := va_S.rf
  have hl := lv_entry ([.ref (a 0), .int x1, .int x2]) (n := 3) (Nat.le_of_ble_eq_true rfl)
  rw [lg_entry_eq]
  generalize (lg_sl ([.ref (a 0), .int x1, .int x2]) ++ List.replicate (3 - (lg_sl ([.ref (a 0), .int x1, .int x2])).length) Slot.unset).toArray = ls at hl ⊢
  have hl : lv_has ls 3 [(0, .ref (a 0)), (1, .int x1), (2, .int x2)] := hl
  refine oh_genQ (fun Q hQ => ?_)
  refine lv_iload_n hx hb dX6_element_0 rfl (lv_at hl 1 rfl) ?_
  refine tq_S (As := [.int x1]) (rest := []) (ws := []) ⟨hx, hb, hml, hown, htg⟩ (c_X6_isShelf l D E G x1) (va_cwS 1 htg (oh_gS q_290 q_291 q_66 q_292) rfl rfl rfl pdX6_isShelf ⟨Nat.le_of_ble_eq_true rfl, Nat.le_of_ble_eq_true rfl⟩) hK va_nil hG hS rfl hl.1 rfl (Nat.le_of_ble_eq_true rfl) dX6_element_1 ⟨Nat.le_of_ble_eq_true rfl, Nat.le_of_ble_eq_true rfl⟩ (fun r_1 hq_2 => ?_)
  refine lv_if_eq (tgt := 18) hx hb dX6_element_4 (by decide) (fun (c_3 : r_1 = 0) => ?_) (fun (c_3 : ¬ (r_1 = 0)) => ?_)
  · have u_4 := hq_2.2.2 c_3
    refine lv_lconst (v := 0) hx hb dX6_element_18 (by decide) ?_
    rw [hQ]
    exact W.lret (v := 0) hx hb hr (fun t ht hW => ⟨0, rfl, trivial, ht⟩) (fun q h => by cases h) dX6_element_19
  · have u_5 := hq_2.2.1 c_3
    refine lv_aload_n hx hb dX6_element_7 rfl (lv_at hl 0 rfl) ?_
    refine va_get (D := D) (ci := 6) (v := .ref (a 4)) (C := RX6) (T := TX6) (N := 9) hx hb htg ig_6 hown hK hP 0 (oh_wg (by decide) (sX_0 hT)) rfl 4 (by decide) (htg _ q_262) (fun _ h9 => h9) rfl dX6_element_8 ?_
    refine lv_iload_n hx hb dX6_element_11 rfl (lv_at hl 1 rfl) ?_
    refine tq_V (As := [.int x1]) (rest := []) (ws := (oh_W 35 a C)) ⟨hx, hb, hml, hown, htg⟩ (c_X3_holdsRow l D E G a C hT x1 (rg_w u_5 (by decide))) (cwV 1 htg (oh_gV q_352 q_336 q_337 q_70 q_338) rfl rfl rfl pdVX3_holdsRow ⟨Nat.le_of_ble_eq_true rfl, Nat.le_of_ble_eq_true rfl⟩) hK hP hG hS (va_recv hK hP (ci := 3) (q0 := 4) rfl (oh_wg (by decide) (sX_4 hT))) rfl hl.1 rfl (Nat.le_of_ble_eq_true rfl) dX6_element_12 ⟨Nat.le_of_ble_eq_true rfl, Nat.le_of_ble_eq_true rfl⟩ (fun r_6 hq_7 => ?_)
    refine lv_if_ne (tgt := 20) hx hb dX6_element_15 (by decide) (fun (c_8 : ¬ (r_6 = 0)) => ?_) (fun (c_8 : r_6 = 0) => ?_)
    · refine lv_aload_n hx hb dX6_element_20 rfl (lv_at hl 0 rfl) ?_
      refine va_get (D := D) (ci := 6) (v := .ref (a 4)) (C := RX6) (T := TX6) (N := 9) hx hb htg ig_6 hown hK hP 0 (oh_wg (by decide) (sX_0 hT)) rfl 4 (by decide) (htg _ q_262) (fun _ h9 => h9) rfl dX6_element_21 ?_
      refine lv_iload_n hx hb dX6_element_24 rfl (lv_at hl 1 rfl) ?_
      refine lv_iload_n hx hb dX6_element_25 rfl (lv_at hl 2 rfl) ?_
      refine tq_Vl (As := [.int x1, .int x2]) (rest := []) (ws := (oh_W 35 a C)) ⟨hx, hb, hml, hown, htg⟩ (c_X3_elementAt l D E G a C hT x1 x2 (rg_w u_5 (by decide))) (cwV 2 htg (oh_gV q_353 q_354 q_355 q_70 q_356) rfl rfl rfl pdVX3_elementAt ⟨Nat.le_of_ble_eq_true rfl, Nat.le_of_ble_eq_true rfl⟩) hK hP hG hS (va_recv hK hP (ci := 3) (q0 := 4) rfl (oh_wg (by decide) (sX_4 hT))) rfl hl.1 rfl (Nat.le_of_ble_eq_true rfl) dX6_element_26 ⟨Nat.le_of_ble_eq_true rfl, Nat.le_of_ble_eq_true rfl⟩ (fun r_9 hq_10 => ?_)
      rw [hQ]
      exact W.lret (v := r_9) hx hb hr (fun t ht hW => ⟨r_9, rfl, trivial, ht⟩) (fun q h => by cases h) dX6_element_29
    · refine lv_lconst (v := 0) hx hb dX6_element_18 (by decide) ?_
      rw [hQ]
      exact W.lret (v := 0) hx hb hr (fun t ht hW => ⟨0, rfl, trivial, ht⟩) (fun q h => by cases h) dX6_element_19

set_option maxHeartbeats 4000000 in
set_option maxRecDepth 100000 in
theorem c_X6_holds (l : Launch) (D : va_G) (E : Nat → ClassId) (G : Nat → Nat) (a : Nat → Nat) (C : Nat → va_E) (hT : TyX a E C) (x1 : Int32) : Met l yX6_holds (oh_w yX6_holds cX6_holds 2 (some .int)) ({ frames := 2, cells := 0, slots := 0, locals := 42 }) (oh_Pp D E G [.ref (a 0), .int x1] (oh_W 35 a C)) (vp_Si (fun r => True)) 0 0 (fun _ => False) := by
  refine Met.ofW (cc := cX6_holds) (maxL := 2) (ret := (some .int)) (by decide) rfl ?_
  intro p e s m args below meth c s₁ B hml hv
  obtain ⟨rfl, hP, hK, hG⟩ := hv
  have hx := B.exec
  have hb := B.bytes
  have hr := B.returns
  have hts := atoms_spec (ws := (oh_w yX6_holds cX6_holds 2 (some .int))) B.pre
  have htg : ∀ w ∈ oh_t, w.before _ s = true := fun w h => hts w (List.mem_cons_of_mem _ h)
  have hown : s.vm.findClass RX6 = some m.cls := findClass_of_methodNamed B.named
  have hlocks := B.notSynchronized
  have hT0 := hT
  have hS : va_S (fun _ => False) s.heap s.heap [] := va_S.rf
  have hl := lv_entry ([.ref (a 0), .int x1]) (n := 2) (Nat.le_of_ble_eq_true rfl)
  rw [lg_entry_eq]
  generalize (lg_sl ([.ref (a 0), .int x1]) ++ List.replicate (2 - (lg_sl ([.ref (a 0), .int x1])).length) Slot.unset).toArray = ls at hl ⊢
  have hl : lv_has ls 2 [(0, .ref (a 0)), (1, .int x1)] := hl
  refine oh_genQ (fun Q hQ => ?_)
  refine lv_iload_n hx hb dX6_holds_0 rfl (lv_at hl 1 rfl) ?_
  refine tq_S (As := [.int x1]) (rest := []) (ws := []) ⟨hx, hb, hml, hown, htg⟩ (c_X6_isShelf l D E G x1) (va_cwS 1 htg (oh_gS q_290 q_291 q_66 q_292) rfl rfl rfl pdX6_isShelf ⟨Nat.le_of_ble_eq_true rfl, Nat.le_of_ble_eq_true rfl⟩) hK va_nil hG hS rfl hl.1 rfl (Nat.le_of_ble_eq_true rfl) dX6_holds_1 ⟨Nat.le_of_ble_eq_true rfl, Nat.le_of_ble_eq_true rfl⟩ (fun r_1 hq_2 => ?_)
  refine lv_if_eq (tgt := 19) hx hb dX6_holds_4 (by decide) (fun (c_3 : r_1 = 0) => ?_) (fun (c_3 : ¬ (r_1 = 0)) => ?_)
  · have u_4 := hq_2.2.2 c_3
    refine lv_iconst (v := (-1)) hx hb dX6_holds_19 (by decide) ?_
    rw [hQ]
    exact W.iret (v := (-1)) hx hb hr (fun t ht hW => ⟨(-1), rfl, trivial, ht⟩) (fun q h => by cases h) dX6_holds_20
  · have u_5 := hq_2.2.1 c_3
    refine lv_aload_n hx hb dX6_holds_7 rfl (lv_at hl 0 rfl) ?_
    refine va_get (D := D) (ci := 6) (v := .ref (a 4)) (C := RX6) (T := TX6) (N := 9) hx hb htg ig_6 hown hK hP 0 (oh_wg (by decide) (sX_0 hT)) rfl 4 (by decide) (htg _ q_262) (fun _ h9 => h9) rfl dX6_holds_8 ?_
    refine va_get (D := D) (ci := 3) (v := .ref (a 29)) (C := RX3) (T := TX3) (N := 3) hx hb htg ig_3 hown hK hP 4 (oh_wg (by decide) (sX_4 hT)) rfl 0 (by decide) (htg _ q_199) (fun _ h9 => h9) rfl dX6_holds_11 ?_
    refine lv_iload_n hx hb dX6_holds_14 rfl (lv_at hl 1 rfl) ?_
    have n_6 : vp_in x1 8 := (rg_in u_5 (by decide))
    refine th_iald hx hb hK hP 29 (by decide) (sX_29 hT) n_6 dX6_holds_15 ?_
    refine lv_goto (tgt := 20) hx hb dX6_holds_16 (by decide) ?_
    rw [hQ]
    exact W.iret (v := ga (C 29) (x1).toNatClampNeg) hx hb hr (fun t ht hW => ⟨ga (C 29) (x1).toNatClampNeg, rfl, trivial, ht⟩) (fun q h => by cases h) dX6_holds_20

set_option maxHeartbeats 4000000 in
set_option maxRecDepth 100000 in
theorem c_X6_show (l : Launch) (D : va_G) (E : Nat → ClassId) (G : Nat → Nat) (sz : Nat) (a : Nat → Nat) (C : Nat → va_E) (hT : TyX a E C) (x1 : Int32) (x2 : Int32) : Met l yX6_show (oh_w yX6_show cX6_show 3 (some .int)) ({ frames := 2, cells := 0, slots := 0, locals := 44 }) (oh_Pm D E G [.ref (a 0), .int x1, .int x2] (oh_W 35 a C) sz) (va_Qi (fun r (u : Nat → va_E) => TyX a E u ∧ fr [(7, 8), (29, 31)] [] C u ∧ True) (oh_B D (va_A (oh_W 35 a C) sz) (fun u => oh_W 35 a u)) (va_A (oh_W 35 a C) sz)) 0 0 (va_A (oh_W 35 a C) sz) := by
  refine Met.ofW (cc := cX6_show) (maxL := 3) (ret := (some .int)) (by decide) rfl ?_
  intro p e s m args below meth c s₁ B hml hv
  obtain ⟨rfl, hsz, hP, hK, hD0, hG⟩ := hv
  have hx := B.exec
  have hb := B.bytes
  have hr := B.returns
  have hts := atoms_spec (ws := (oh_w yX6_show cX6_show 3 (some .int))) B.pre
  have htg : ∀ w ∈ oh_t, w.before _ s = true := fun w h => hts w (List.mem_cons_of_mem _ h)
  have hown : s.vm.findClass RX6 = some m.cls := findClass_of_methodNamed B.named
  have hlocks := B.notSynchronized
  have hT0 := hT
  subst hsz
  have hD := hD0.self (sz := s.heap.size)
  generalize hAe : va_A (oh_W 35 a C) s.heap.size = A at hD hG ⊢
  have hA : ∀ q : Nat, s.heap.size ≤ q → A q := fun q h => by rw [← hAe]; exact Or.inr h
  have hS : va_S A s.heap s.heap [] := va_S.rf
  have hF : fr [(7, 8), (29, 31)] [] C C := fr_rf
  have hl := lv_entry ([.ref (a 0), .int x1, .int x2]) (n := 3) (Nat.le_of_ble_eq_true rfl)
  rw [lg_entry_eq]
  generalize (lg_sl ([.ref (a 0), .int x1, .int x2]) ++ List.replicate (3 - (lg_sl ([.ref (a 0), .int x1, .int x2])).length) Slot.unset).toArray = ls at hl ⊢
  have hl : lv_has ls 3 [(0, .ref (a 0)), (1, .int x1), (2, .int x2)] := hl
  refine oh_genQ (fun Q hQ => ?_)
  refine lv_iload_n hx hb dX6_show_0 rfl (lv_at hl 1 rfl) ?_
  refine tq_S (As := [.int x1]) (rest := []) (ws := []) ⟨hx, hb, hml, hown, htg⟩ (c_X6_isShelf l D E G x1) (va_cwS 1 htg (oh_gS q_290 q_291 q_66 q_292) rfl rfl rfl pdX6_isShelf ⟨Nat.le_of_ble_eq_true rfl, Nat.le_of_ble_eq_true rfl⟩) hK va_nil hG hS rfl hl.1 rfl (Nat.le_of_ble_eq_true rfl) dX6_show_1 ⟨Nat.le_of_ble_eq_true rfl, Nat.le_of_ble_eq_true rfl⟩ (fun r_1 hq_2 => ?_)
  refine lv_if_eq (tgt := 20) hx hb dX6_show_4 (by decide) (fun (c_3 : r_1 = 0) => ?_) (fun (c_3 : ¬ (r_1 = 0)) => ?_)
  · have u_4 := hq_2.2.2 c_3
    refine lv_aload_n hx hb dX6_show_20 rfl (lv_at hl 0 rfl) ?_
    refine lv_bipush (v := (-2)) hx hb dX6_show_21 (by decide) ?_
    refine tm_V (As := [.int (-2)]) (rest := []) ⟨hx, hb, hml, hown, htg⟩ (c_X6_refuse l D E G _ a C hT ((-2) : Int32)) (cwV 1 htg (oh_gV q_296 q_298 q_0 q_66 q_299) rfl rfl rfl pdVX6_refuse ⟨Nat.le_of_ble_eq_true rfl, Nat.le_of_ble_eq_true rfl⟩) hK hP hD hG hS hA (va_recv hK hP (ci := 6) (q0 := 0) rfl (oh_wg (by decide) (sX_0 hT))) rfl hl.1 rfl (Nat.le_of_ble_eq_true rfl) dX6_show_23 ⟨Nat.le_of_ble_eq_true rfl, Nat.le_of_ble_eq_true rfl⟩ (fun r_5 C_6 H locs hq_7 hP hD hS => ?_)
    obtain ⟨hT, f_8, hq_7⟩ := hq_7
    have hF := fr_tr hF f_8 (by decide) (by decide)
    refine W.widen (k := 0) (n := 0) (Nat.le_refl _) (Nat.le_refl _) ?_
    have t_9 := hT
    rw [hQ]
    exact W.iret (v := r_5) hx hb hr (fun t ht hW => ⟨⟨r_5, C_6, rfl, ⟨hT, hF, trivial⟩, ⟨by rw [ht]; exact hP, hD⟩⟩, hS.F ht⟩) hS.2.2 dX6_show_26
  · have u_10 := hq_2.2.1 c_3
    refine lv_iload_n hx hb dX6_show_7 rfl (lv_at hl 2 rfl) ?_
    refine lv_iconst (v := (-1)) hx hb dX6_show_8 (by decide) ?_
    refine lv_icmp_eq (tgt := 27) hx hb dX6_show_9 (by decide) (fun (c_11 : x2 = (-1)) => ?_) (fun (c_11 : ¬ (x2 = (-1))) => ?_)
    · refine lv_aload_n hx hb dX6_show_27 rfl (lv_at hl 0 rfl) ?_
      refine va_get (D := D) (ci := 6) (v := .ref (a 4)) (C := RX6) (T := TX6) (N := 9) hx hb htg ig_6 hown hK hP 0 (oh_wg (by decide) (sX_0 hT)) rfl 4 (by decide) (htg _ q_262) (fun _ h9 => h9) rfl dX6_show_28 ?_
      refine lv_iload_n hx hb dX6_show_31 rfl (lv_at hl 1 rfl) ?_
      refine lv_iload_n hx hb dX6_show_32 rfl (lv_at hl 2 rfl) ?_
      refine tm_Vv (As := [.int x1, .int x2]) (rest := []) ⟨hx, hb, hml, hown, htg⟩ (c_X3_putBridge l D E G _ a C hT x1 x2 (rg_w u_10 (by decide))) (cwV 2 htg (oh_gV q_370 q_371 q_372 q_70 q_373) rfl rfl rfl pdVX3_putBridge ⟨Nat.le_of_ble_eq_true rfl, Nat.le_of_ble_eq_true rfl⟩) hK hP hD hG hS hA (va_recv hK hP (ci := 3) (q0 := 4) rfl (oh_wg (by decide) (sX_4 hT))) rfl hl.1 rfl (Nat.le_of_ble_eq_true rfl) dX6_show_33 ⟨Nat.le_of_ble_eq_true rfl, Nat.le_of_ble_eq_true rfl⟩ (fun C_13 H locs hq_14 hP hD hS => ?_)
      obtain ⟨hT, f_15, hq_14⟩ := hq_14
      have hF := fr_tr hF f_15 (by decide) (by decide)
      refine W.widen (k := 0) (n := 0) (Nat.le_refl _) (Nat.le_refl _) ?_
      have t_16 := hT
      refine lv_iconst (v := 1) hx hb dX6_show_36 (by decide) ?_
      rw [hQ]
      exact W.iret (v := 1) hx hb hr (fun t ht hW => ⟨⟨1, C_13, rfl, ⟨hT, hF, trivial⟩, ⟨by rw [ht]; exact hP, hD⟩⟩, hS.F ht⟩) hS.2.2 dX6_show_37
    · refine lv_aload_n hx hb dX6_show_12 rfl (lv_at hl 0 rfl) ?_
      refine lv_iload_n hx hb dX6_show_13 rfl (lv_at hl 2 rfl) ?_
      refine tq_V (As := [.int x2]) (rest := []) (ws := (oh_W 35 a C)) ⟨hx, hb, hml, hown, htg⟩ (c_X6_isBridge l D E G a C hT x2) (cwV 1 htg (oh_gV q_366 q_368 q_2 q_66 q_369) rfl rfl rfl pdVX6_isBridge ⟨Nat.le_of_ble_eq_true rfl, Nat.le_of_ble_eq_true rfl⟩) hK hP hG hS (va_recv hK hP (ci := 6) (q0 := 0) rfl (oh_wg (by decide) (sX_0 hT))) rfl hl.1 rfl (Nat.le_of_ble_eq_true rfl) dX6_show_14 ⟨Nat.le_of_ble_eq_true rfl, Nat.le_of_ble_eq_true rfl⟩ (fun r_17 hq_18 => ?_)
      refine lv_if_ne (tgt := 27) hx hb dX6_show_17 (by decide) (fun (c_19 : ¬ (r_17 = 0)) => ?_) (fun (c_19 : r_17 = 0) => ?_)
      · have u_20 := hq_18.2 c_19
        refine lv_aload_n hx hb dX6_show_27 rfl (lv_at hl 0 rfl) ?_
        refine va_get (D := D) (ci := 6) (v := .ref (a 4)) (C := RX6) (T := TX6) (N := 9) hx hb htg ig_6 hown hK hP 0 (oh_wg (by decide) (sX_0 hT)) rfl 4 (by decide) (htg _ q_262) (fun _ h9 => h9) rfl dX6_show_28 ?_
        refine lv_iload_n hx hb dX6_show_31 rfl (lv_at hl 1 rfl) ?_
        refine lv_iload_n hx hb dX6_show_32 rfl (lv_at hl 2 rfl) ?_
        refine tm_Vv (As := [.int x1, .int x2]) (rest := []) ⟨hx, hb, hml, hown, htg⟩ (c_X3_putBridge l D E G _ a C hT x1 x2 (rg_w u_10 (by decide))) (cwV 2 htg (oh_gV q_370 q_371 q_372 q_70 q_373) rfl rfl rfl pdVX3_putBridge ⟨Nat.le_of_ble_eq_true rfl, Nat.le_of_ble_eq_true rfl⟩) hK hP hD hG hS hA (va_recv hK hP (ci := 3) (q0 := 4) rfl (oh_wg (by decide) (sX_4 hT))) rfl hl.1 rfl (Nat.le_of_ble_eq_true rfl) dX6_show_33 ⟨Nat.le_of_ble_eq_true rfl, Nat.le_of_ble_eq_true rfl⟩ (fun C_22 H locs hq_23 hP hD hS => ?_)
        obtain ⟨hT, f_24, hq_23⟩ := hq_23
        have hF := fr_tr hF f_24 (by decide) (by decide)
        refine W.widen (k := 0) (n := 0) (Nat.le_refl _) (Nat.le_refl _) ?_
        have t_25 := hT
        refine lv_iconst (v := 1) hx hb dX6_show_36 (by decide) ?_
        rw [hQ]
        exact W.iret (v := 1) hx hb hr (fun t ht hW => ⟨⟨1, C_22, rfl, ⟨hT, hF, trivial⟩, ⟨by rw [ht]; exact hP, hD⟩⟩, hS.F ht⟩) hS.2.2 dX6_show_37
      · refine lv_aload_n hx hb dX6_show_20 rfl (lv_at hl 0 rfl) ?_
        refine lv_bipush (v := (-2)) hx hb dX6_show_21 (by decide) ?_
        refine tm_V (As := [.int (-2)]) (rest := []) ⟨hx, hb, hml, hown, htg⟩ (c_X6_refuse l D E G _ a C hT ((-2) : Int32)) (cwV 1 htg (oh_gV q_296 q_298 q_0 q_66 q_299) rfl rfl rfl pdVX6_refuse ⟨Nat.le_of_ble_eq_true rfl, Nat.le_of_ble_eq_true rfl⟩) hK hP hD hG hS hA (va_recv hK hP (ci := 6) (q0 := 0) rfl (oh_wg (by decide) (sX_0 hT))) rfl hl.1 rfl (Nat.le_of_ble_eq_true rfl) dX6_show_23 ⟨Nat.le_of_ble_eq_true rfl, Nat.le_of_ble_eq_true rfl⟩ (fun r_26 C_27 H locs hq_28 hP hD hS => ?_)
        obtain ⟨hT, f_29, hq_28⟩ := hq_28
        have hF := fr_tr hF f_29 (by decide) (by decide)
        refine W.widen (k := 0) (n := 0) (Nat.le_refl _) (Nat.le_refl _) ?_
        have t_30 := hT
        rw [hQ]
        exact W.iret (v := r_26) hx hb hr (fun t ht hW => ⟨⟨r_26, C_27, rfl, ⟨hT, hF, trivial⟩, ⟨by rw [ht]; exact hP, hD⟩⟩, hS.F ht⟩) hS.2.2 dX6_show_26

set_option maxHeartbeats 4000000 in
set_option maxRecDepth 100000 in
theorem c_X6_says (l : Launch) (D : va_G) (E : Nat → ClassId) (G : Nat → Nat) (sz : Nat) (a : Nat → Nat) (C : Nat → va_E) (hT : TyX a E C) (x1 : Int32) (x2 : Int32) : Met l yX6_says (oh_w yX6_says cX6_says 4 (some .int)) ({ frames := 3, cells := 0, slots := 0, locals := 73 }) (oh_Pm D E G [.ref (a 0), .int x1, .int x2] (oh_W 35 a C) sz) (va_Qi (fun r (u : Nat → va_E) => TyX a E u ∧ fr [(7, 8)] [] C u ∧ True) (oh_B D (va_A (oh_W 35 a C) sz) (fun u => oh_W 35 a u)) (va_A (oh_W 35 a C) sz)) 0 0 (va_A (oh_W 35 a C) sz) := by
  refine Met.ofW (cc := cX6_says) (maxL := 4) (ret := (some .int)) (by decide) rfl ?_
  intro p e s m args below meth c s₁ B hml hv
  obtain ⟨rfl, hsz, hP, hK, hD0, hG⟩ := hv
  have hx := B.exec
  have hb := B.bytes
  have hr := B.returns
  have hts := atoms_spec (ws := (oh_w yX6_says cX6_says 4 (some .int))) B.pre
  have htg : ∀ w ∈ oh_t, w.before _ s = true := fun w h => hts w (List.mem_cons_of_mem _ h)
  have hown : s.vm.findClass RX6 = some m.cls := findClass_of_methodNamed B.named
  have hlocks := B.notSynchronized
  have hT0 := hT
  subst hsz
  have hD := hD0.self (sz := s.heap.size)
  generalize hAe : va_A (oh_W 35 a C) s.heap.size = A at hD hG ⊢
  have hA : ∀ q : Nat, s.heap.size ≤ q → A q := fun q h => by rw [← hAe]; exact Or.inr h
  have hS : va_S A s.heap s.heap [] := va_S.rf
  have hF : fr [(7, 8)] [] C C := fr_rf
  have hl := lv_entry ([.ref (a 0), .int x1, .int x2]) (n := 4) (Nat.le_of_ble_eq_true rfl)
  rw [lg_entry_eq]
  generalize (lg_sl ([.ref (a 0), .int x1, .int x2]) ++ List.replicate (4 - (lg_sl ([.ref (a 0), .int x1, .int x2])).length) Slot.unset).toArray = ls at hl ⊢
  have hl : lv_has ls 4 [(0, .ref (a 0)), (1, .int x1), (2, .int x2)] := hl
  refine oh_genQ (fun Q hQ => ?_)
  refine lv_iload_n hx hb dX6_says_0 rfl (lv_at hl 1 rfl) ?_
  refine tq_S (As := [.int x1]) (rest := []) (ws := []) ⟨hx, hb, hml, hown, htg⟩ (c_X6_isShelf l D E G x1) (va_cwS 1 htg (oh_gS q_290 q_291 q_66 q_292) rfl rfl rfl pdX6_isShelf ⟨Nat.le_of_ble_eq_true rfl, Nat.le_of_ble_eq_true rfl⟩) hK va_nil hG hS rfl hl.1 rfl (Nat.le_of_ble_eq_true rfl) dX6_says_1 ⟨Nat.le_of_ble_eq_true rfl, Nat.le_of_ble_eq_true rfl⟩ (fun r_1 hq_2 => ?_)
  refine lv_if_eq (tgt := 16) hx hb dX6_says_4 (by decide) (fun (c_3 : r_1 = 0) => ?_) (fun (c_3 : ¬ (r_1 = 0)) => ?_)
  · have u_4 := hq_2.2.2 c_3
    refine lv_aload_n hx hb dX6_says_16 rfl (lv_at hl 0 rfl) ?_
    refine lv_bipush (v := (-2)) hx hb dX6_says_17 (by decide) ?_
    refine tm_V (As := [.int (-2)]) (rest := []) ⟨hx, hb, hml, hown, htg⟩ (c_X6_refuse l D E G _ a C hT ((-2) : Int32)) (cwV 1 htg (oh_gV q_296 q_298 q_0 q_66 q_299) rfl rfl rfl pdVX6_refuse ⟨Nat.le_of_ble_eq_true rfl, Nat.le_of_ble_eq_true rfl⟩) hK hP hD hG hS hA (va_recv hK hP (ci := 6) (q0 := 0) rfl (oh_wg (by decide) (sX_0 hT))) rfl hl.1 rfl (Nat.le_of_ble_eq_true rfl) dX6_says_19 ⟨Nat.le_of_ble_eq_true rfl, Nat.le_of_ble_eq_true rfl⟩ (fun r_5 C_6 H locs hq_7 hP hD hS => ?_)
    obtain ⟨hT, f_8, hq_7⟩ := hq_7
    have hF := fr_tr hF f_8 (by decide) (by decide)
    refine W.widen (k := 0) (n := 0) (Nat.le_refl _) (Nat.le_refl _) ?_
    have t_9 := hT
    rw [hQ]
    exact W.iret (v := r_5) hx hb hr (fun t ht hW => ⟨⟨r_5, C_6, rfl, ⟨hT, hF, trivial⟩, ⟨by rw [ht]; exact hP, hD⟩⟩, hS.F ht⟩) hS.2.2 dX6_says_22
  · have u_10 := hq_2.2.1 c_3
    refine lv_iload_n hx hb dX6_says_7 rfl (lv_at hl 2 rfl) ?_
    refine lv_iconst (v := 0) hx hb dX6_says_8 (by decide) ?_
    refine lv_iconst (v := 5) hx hb dX6_says_9 (by decide) ?_
    refine tq_S (As := [.int x2, .int 0, .int 5]) (rest := []) (ws := []) ⟨hx, hb, hml, hown, htg⟩ (c_X6_within l D E G x2 (0 : Int32) (5 : Int32)) (va_cwS 3 htg (oh_gS q_293 q_294 q_66 q_295) rfl rfl rfl pdX6_within ⟨Nat.le_of_ble_eq_true rfl, Nat.le_of_ble_eq_true rfl⟩) hK va_nil hG hS rfl hl.1 rfl (Nat.le_of_ble_eq_true rfl) dX6_says_10 ⟨Nat.le_of_ble_eq_true rfl, Nat.le_of_ble_eq_true rfl⟩ (fun r_11 hq_12 => ?_)
    refine lv_if_ne (tgt := 23) hx hb dX6_says_13 (by decide) (fun (c_13 : ¬ (r_11 = 0)) => ?_) (fun (c_13 : r_11 = 0) => ?_)
    · have u_14 := hq_12.2.1 c_13
      refine lv_aload_n hx hb dX6_says_23 rfl (lv_at hl 0 rfl) ?_
      refine va_get (D := D) (ci := 6) (v := .ref (a 4)) (C := RX6) (T := TX6) (N := 9) hx hb htg ig_6 hown hK hP 0 (oh_wg (by decide) (sX_0 hT)) rfl 4 (by decide) (htg _ q_262) (fun _ h9 => h9) rfl dX6_says_24 ?_
      refine lv_iload_n hx hb dX6_says_27 rfl (lv_at hl 1 rfl) ?_
      refine tq_V (As := [.int x1]) (rest := []) (ws := (oh_W 35 a C)) ⟨hx, hb, hml, hown, htg⟩ (c_X3_holdsRow l D E G a C hT x1 (rg_w u_10 (by decide))) (cwV 1 htg (oh_gV q_352 q_336 q_337 q_70 q_338) rfl rfl rfl pdVX3_holdsRow ⟨Nat.le_of_ble_eq_true rfl, Nat.le_of_ble_eq_true rfl⟩) hK hP hG hS (va_recv hK hP (ci := 3) (q0 := 4) rfl (oh_wg (by decide) (sX_4 hT))) rfl hl.1 rfl (Nat.le_of_ble_eq_true rfl) dX6_says_28 ⟨Nat.le_of_ble_eq_true rfl, Nat.le_of_ble_eq_true rfl⟩ (fun r_15 hq_16 => ?_)
      refine lv_if_eq (tgt := 41) hx hb dX6_says_31 (by decide) (fun (c_17 : r_15 = 0) => ?_) (fun (c_17 : ¬ (r_15 = 0)) => ?_)
      · refine lv_aload_n hx hb dX6_says_41 rfl (lv_at hl 0 rfl) ?_
        refine va_get (D := D) (ci := 6) (v := .ref (a 4)) (C := RX6) (T := TX6) (N := 9) hx hb htg ig_6 hown hK hP 0 (oh_wg (by decide) (sX_0 hT)) rfl 4 (by decide) (htg _ q_262) (fun _ h9 => h9) rfl dX6_says_42 ?_
        refine va_get (D := D) (ci := 3) (v := .ref (a 29)) (C := RX3) (T := TX3) (N := 3) hx hb htg ig_3 hown hK hP 4 (oh_wg (by decide) (sX_4 hT)) rfl 0 (by decide) (htg _ q_199) (fun _ h9 => h9) rfl dX6_says_45 ?_
        refine lv_iload_n hx hb dX6_says_48 rfl (lv_at hl 1 rfl) ?_
        have n_18 : vp_in x1 8 := (rg_in u_10 (by decide))
        refine th_iald hx hb hK hP 29 (by decide) (sX_29 hT) n_18 dX6_says_49 ?_
        refine lv_bipush (v := 10) hx hb dX6_says_50 (by decide) ?_
        refine lv_isub hx hb dX6_says_52 ?_
        refine lv_istore_n (lv' := [(3, .int ((ga (C 29) (x1).toNatClampNeg) - 10)), (0, .ref (a 0)), (1, .int x1), (2, .int x2)]) hx hb dX6_says_53 rfl hl (by decide) rfl (fun ls hl => ?_)
        refine lv_aload_n hx hb dX6_says_54 rfl (lv_at hl 1 rfl) ?_
        refine lv_iload_n hx hb dX6_says_55 rfl (lv_at hl 0 rfl) ?_
        refine tq_V (As := [.int ((ga (C 29) (x1).toNatClampNeg) - 10)]) (rest := []) (ws := (oh_W 35 a C)) ⟨hx, hb, hml, hown, htg⟩ (c_X6_isBridge l D E G a C hT ((ga (C 29) (x1).toNatClampNeg) - 10)) (cwV 1 htg (oh_gV q_366 q_368 q_2 q_66 q_369) rfl rfl rfl pdVX6_isBridge ⟨Nat.le_of_ble_eq_true rfl, Nat.le_of_ble_eq_true rfl⟩) hK hP hG hS (va_recv hK hP (ci := 6) (q0 := 0) rfl (oh_wg (by decide) (sX_0 hT))) rfl hl.1 rfl (Nat.le_of_ble_eq_true rfl) dX6_says_56 ⟨Nat.le_of_ble_eq_true rfl, Nat.le_of_ble_eq_true rfl⟩ (fun r_19 hq_20 => ?_)
        refine lv_if_ne (tgt := 69) hx hb dX6_says_59 (by decide) (fun (c_21 : ¬ (r_19 = 0)) => ?_) (fun (c_21 : r_19 = 0) => ?_)
        · have u_22 := hq_20.2 c_21
          refine lv_aload_n hx hb dX6_says_69 rfl (lv_at hl 1 rfl) ?_
          refine va_get (D := D) (ci := 6) (v := .ref (a 1)) (C := RX6) (T := TX6) (N := 9) hx hb htg ig_6 hown hK hP 0 (oh_wg (by decide) (sX_0 hT)) rfl 0 (by decide) (htg _ q_258) (fun _ h9 => h9) rfl dX6_says_70 ?_
          refine lv_iload_n hx hb dX6_says_73 rfl (lv_at hl 0 rfl) ?_
          refine lv_iload_n hx hb dX6_says_74 rfl (lv_at hl 3 rfl) ?_
          refine tq_V (As := [.int ((ga (C 29) (x1).toNatClampNeg) - 10), .int x2]) (rest := []) (ws := (oh_W 35 a C)) ⟨hx, hb, hml, hown, htg⟩ (c_X0_mayBeTakenFor l D E G a C hT ((ga (C 29) (x1).toNatClampNeg) - 10) x2 (rg_w u_22 (by decide))) (cwV 2 htg (oh_gV q_378 q_379 q_380 q_67 q_381) rfl rfl rfl pdVX0_mayBeTakenFor ⟨Nat.le_of_ble_eq_true rfl, Nat.le_of_ble_eq_true rfl⟩) hK hP hG hS (va_recv hK hP (ci := 0) (q0 := 1) rfl (oh_wg (by decide) (sX_1 hT))) rfl hl.1 rfl (Nat.le_of_ble_eq_true rfl) dX6_says_75 ⟨Nat.le_of_ble_eq_true rfl, Nat.le_of_ble_eq_true rfl⟩ (fun r_23 hq_24 => ?_)
          refine lv_if_ne (tgt := 88) hx hb dX6_says_78 (by decide) (fun (c_25 : ¬ (r_23 = 0)) => ?_) (fun (c_25 : r_23 = 0) => ?_)
          · refine lv_aload_n hx hb dX6_says_88 rfl (lv_at hl 1 rfl) ?_
            refine lv_iload_n hx hb dX6_says_89 rfl (lv_at hl 0 rfl) ?_
            refine lv_iload_n hx hb dX6_says_90 rfl (lv_at hl 3 rfl) ?_
            refine tq_V (As := [.int ((ga (C 29) (x1).toNatClampNeg) - 10), .int x2]) (rest := []) (ws := (oh_W 35 a C)) ⟨hx, hb, hml, hown, htg⟩ (c_X6_spoken l D E G a C hT ((ga (C 29) (x1).toNatClampNeg) - 10) x2 (rg_w u_22 (by decide))) (cwV 2 htg (oh_gV q_388 q_390 q_3 q_66 q_391) rfl rfl rfl pdVX6_spoken ⟨Nat.le_of_ble_eq_true rfl, Nat.le_of_ble_eq_true rfl⟩) hK hP hG hS (va_recv hK hP (ci := 6) (q0 := 0) rfl (oh_wg (by decide) (sX_0 hT))) rfl hl.1 rfl (Nat.le_of_ble_eq_true rfl) dX6_says_91 ⟨Nat.le_of_ble_eq_true rfl, Nat.le_of_ble_eq_true rfl⟩ (fun r_26 hq_27 => ?_)
            rw [hQ]
            exact W.iret (v := r_26) hx hb hr (fun t ht hW => ⟨⟨r_26, C, rfl, ⟨hT, hF, trivial⟩, ⟨by rw [ht]; exact hP, hD⟩⟩, hS.F ht⟩) hS.2.2 dX6_says_94
          · refine lv_aload_n hx hb dX6_says_81 rfl (lv_at hl 1 rfl) ?_
            refine lv_bipush (v := (-3)) hx hb dX6_says_82 (by decide) ?_
            refine tm_V (As := [.int (-3)]) (rest := []) ⟨hx, hb, hml, hown, htg⟩ (c_X6_refuse l D E G _ a C hT ((-3) : Int32)) (cwV 1 htg (oh_gV q_296 q_298 q_0 q_66 q_299) rfl rfl rfl pdVX6_refuse ⟨Nat.le_of_ble_eq_true rfl, Nat.le_of_ble_eq_true rfl⟩) hK hP hD hG hS hA (va_recv hK hP (ci := 6) (q0 := 0) rfl (oh_wg (by decide) (sX_0 hT))) rfl hl.1 rfl (Nat.le_of_ble_eq_true rfl) dX6_says_84 ⟨Nat.le_of_ble_eq_true rfl, Nat.le_of_ble_eq_true rfl⟩ (fun r_28 C_29 H locs hq_30 hP hD hS => ?_)
            obtain ⟨hT, f_31, hq_30⟩ := hq_30
            have hF := fr_tr hF f_31 (by decide) (by decide)
            refine W.widen (k := 0) (n := 0) (Nat.le_refl _) (Nat.le_refl _) ?_
            have t_32 := hT
            rw [hQ]
            exact W.iret (v := r_28) hx hb hr (fun t ht hW => ⟨⟨r_28, C_29, rfl, ⟨hT, hF, trivial⟩, ⟨by rw [ht]; exact hP, hD⟩⟩, hS.F ht⟩) hS.2.2 dX6_says_87
        · refine lv_aload_n hx hb dX6_says_62 rfl (lv_at hl 1 rfl) ?_
          refine lv_bipush (v := (-4)) hx hb dX6_says_63 (by decide) ?_
          refine tm_V (As := [.int (-4)]) (rest := []) ⟨hx, hb, hml, hown, htg⟩ (c_X6_refuse l D E G _ a C hT ((-4) : Int32)) (cwV 1 htg (oh_gV q_296 q_298 q_0 q_66 q_299) rfl rfl rfl pdVX6_refuse ⟨Nat.le_of_ble_eq_true rfl, Nat.le_of_ble_eq_true rfl⟩) hK hP hD hG hS hA (va_recv hK hP (ci := 6) (q0 := 0) rfl (oh_wg (by decide) (sX_0 hT))) rfl hl.1 rfl (Nat.le_of_ble_eq_true rfl) dX6_says_65 ⟨Nat.le_of_ble_eq_true rfl, Nat.le_of_ble_eq_true rfl⟩ (fun r_33 C_34 H locs hq_35 hP hD hS => ?_)
          obtain ⟨hT, f_36, hq_35⟩ := hq_35
          have hF := fr_tr hF f_36 (by decide) (by decide)
          refine W.widen (k := 0) (n := 0) (Nat.le_refl _) (Nat.le_refl _) ?_
          have t_37 := hT
          rw [hQ]
          exact W.iret (v := r_33) hx hb hr (fun t ht hW => ⟨⟨r_33, C_34, rfl, ⟨hT, hF, trivial⟩, ⟨by rw [ht]; exact hP, hD⟩⟩, hS.F ht⟩) hS.2.2 dX6_says_68
      · refine lv_aload_n hx hb dX6_says_34 rfl (lv_at hl 0 rfl) ?_
        refine lv_bipush (v := (-3)) hx hb dX6_says_35 (by decide) ?_
        refine tm_V (As := [.int (-3)]) (rest := []) ⟨hx, hb, hml, hown, htg⟩ (c_X6_refuse l D E G _ a C hT ((-3) : Int32)) (cwV 1 htg (oh_gV q_296 q_298 q_0 q_66 q_299) rfl rfl rfl pdVX6_refuse ⟨Nat.le_of_ble_eq_true rfl, Nat.le_of_ble_eq_true rfl⟩) hK hP hD hG hS hA (va_recv hK hP (ci := 6) (q0 := 0) rfl (oh_wg (by decide) (sX_0 hT))) rfl hl.1 rfl (Nat.le_of_ble_eq_true rfl) dX6_says_37 ⟨Nat.le_of_ble_eq_true rfl, Nat.le_of_ble_eq_true rfl⟩ (fun r_38 C_39 H locs hq_40 hP hD hS => ?_)
        obtain ⟨hT, f_41, hq_40⟩ := hq_40
        have hF := fr_tr hF f_41 (by decide) (by decide)
        refine W.widen (k := 0) (n := 0) (Nat.le_refl _) (Nat.le_refl _) ?_
        have t_42 := hT
        rw [hQ]
        exact W.iret (v := r_38) hx hb hr (fun t ht hW => ⟨⟨r_38, C_39, rfl, ⟨hT, hF, trivial⟩, ⟨by rw [ht]; exact hP, hD⟩⟩, hS.F ht⟩) hS.2.2 dX6_says_40
    · have u_43 := hq_12.2.2 c_13
      refine lv_aload_n hx hb dX6_says_16 rfl (lv_at hl 0 rfl) ?_
      refine lv_bipush (v := (-2)) hx hb dX6_says_17 (by decide) ?_
      refine tm_V (As := [.int (-2)]) (rest := []) ⟨hx, hb, hml, hown, htg⟩ (c_X6_refuse l D E G _ a C hT ((-2) : Int32)) (cwV 1 htg (oh_gV q_296 q_298 q_0 q_66 q_299) rfl rfl rfl pdVX6_refuse ⟨Nat.le_of_ble_eq_true rfl, Nat.le_of_ble_eq_true rfl⟩) hK hP hD hG hS hA (va_recv hK hP (ci := 6) (q0 := 0) rfl (oh_wg (by decide) (sX_0 hT))) rfl hl.1 rfl (Nat.le_of_ble_eq_true rfl) dX6_says_19 ⟨Nat.le_of_ble_eq_true rfl, Nat.le_of_ble_eq_true rfl⟩ (fun r_44 C_45 H locs hq_46 hP hD hS => ?_)
      obtain ⟨hT, f_47, hq_46⟩ := hq_46
      have hF := fr_tr hF f_47 (by decide) (by decide)
      refine W.widen (k := 0) (n := 0) (Nat.le_refl _) (Nat.le_refl _) ?_
      have t_48 := hT
      rw [hQ]
      exact W.iret (v := r_44) hx hb hr (fun t ht hW => ⟨⟨r_44, C_45, rfl, ⟨hT, hF, trivial⟩, ⟨by rw [ht]; exact hP, hD⟩⟩, hS.F ht⟩) hS.2.2 dX6_says_22

set_option maxHeartbeats 4000000 in
set_option maxRecDepth 100000 in
theorem c_X6_wipe (l : Launch) (D : va_G) (E : Nat → ClassId) (G : Nat → Nat) (sz : Nat) (a : Nat → Nat) (C : Nat → va_E) (hT : TyX a E C) : Met l yX6_wipe (oh_w yX6_wipe cX6_wipe 2 (some .int)) ({ frames := 0, cells := 0, slots := 0, locals := 0 }) (oh_Pm D E G [.ref (a 0)] (oh_W 35 a C) sz) (va_Qi (fun r (u : Nat → va_E) => TyX a E u ∧ fr [(5, 6)] [] C u ∧ ((r = gi (C 5) 1) ∧ (gi (u 5) 1 = 0))) (oh_B D (va_A (oh_W 35 a C) sz) (fun u => oh_W 35 a u)) (va_A (oh_W 35 a C) sz)) 0 0 (va_A (oh_W 35 a C) sz) := by
  refine Met.ofW (cc := cX6_wipe) (maxL := 2) (ret := (some .int)) (by decide) rfl ?_
  intro p e s m args below meth c s₁ B hml hv
  obtain ⟨rfl, hsz, hP, hK, hD0, hG⟩ := hv
  have hx := B.exec
  have hb := B.bytes
  have hr := B.returns
  have hts := atoms_spec (ws := (oh_w yX6_wipe cX6_wipe 2 (some .int))) B.pre
  have htg : ∀ w ∈ oh_t, w.before _ s = true := fun w h => hts w (List.mem_cons_of_mem _ h)
  have hown : s.vm.findClass RX6 = some m.cls := findClass_of_methodNamed B.named
  have hlocks := B.notSynchronized
  have hT0 := hT
  subst hsz
  have hD := hD0.self (sz := s.heap.size)
  generalize hAe : va_A (oh_W 35 a C) s.heap.size = A at hD hG ⊢
  have hA : ∀ q : Nat, s.heap.size ≤ q → A q := fun q h => by rw [← hAe]; exact Or.inr h
  have hS : va_S A s.heap s.heap [] := va_S.rf
  have hF : fr [(5, 6)] [] C C := fr_rf
  have hl := lv_entry ([.ref (a 0)]) (n := 2) (Nat.le_of_ble_eq_true rfl)
  rw [lg_entry_eq]
  generalize (lg_sl ([.ref (a 0)]) ++ List.replicate (2 - (lg_sl ([.ref (a 0)])).length) Slot.unset).toArray = ls at hl ⊢
  have hl : lv_has ls 2 [(0, .ref (a 0))] := hl
  refine oh_genQ (fun Q hQ => ?_)
  refine lv_aload_n hx hb dX6_wipe_0 rfl (lv_at hl 0 rfl) ?_
  refine va_get (D := D) (ci := 6) (v := .ref (a 5)) (C := RX6) (T := TX6) (N := 9) hx hb htg ig_6 hown hK hP 0 (oh_wg (by decide) (sX_0 hT)) rfl 5 (by decide) (htg _ q_263) (fun _ h9 => h9) rfl dX6_wipe_1 ?_
  refine va_get (D := D) (ci := 4) (v := .int (gi (C 5) 1)) (C := RX4) (T := TX4) (N := 6) hx hb htg ig_4 hown hK hP 5 (oh_wg (by decide) (sX_5 hT)) rfl 1 (by decide) (htg _ q_219) (fun _ h9 => h9) rfl dX6_wipe_4 ?_
  refine lv_istore_n (lv' := [(1, .int (gi (C 5) 1)), (0, .ref (a 0))]) hx hb dX6_wipe_7 rfl hl (by decide) rfl (fun ls hl => ?_)
  refine lv_aload_n hx hb dX6_wipe_8 rfl (lv_at hl 1 rfl) ?_
  refine va_get (D := D) (ci := 6) (v := .ref (a 5)) (C := RX6) (T := TX6) (N := 9) hx hb htg ig_6 hown hK hP 0 (oh_wg (by decide) (sX_0 hT)) rfl 5 (by decide) (htg _ q_263) (fun _ h9 => h9) rfl dX6_wipe_9 ?_
  refine lv_iconst (v := 0) hx hb dX6_wipe_12 (by decide) ?_
  refine th_put (Tp := TyX a E) (Rl := fr [(5, 6)] [] C) (ci := 4) (v := .int 0) (ty := .int) (CC := RX4) (T := TX4) (N := 6) hx hb htg ig_4 tyX4 tyX4_ok nmX4 hown hK hP hD hS 5 (by decide) (sX_5 hT) rfl 1 (by decide) (htg _ q_219) (fun _ h9 => h9) rfl (by decide +kernel) rfl rfl (Nat.le_of_ble_eq_true rfl) (hT.up 5 ⟨rfl, (rg_w (rg_c (v := 0) (lo := 0) (hi := 0) (by decide)) (by decide)), (fX_5_2 hT), (fX_5_4 hT), (fX_5_5 hT)⟩) (fr_st hF (by decide) (by decide)) dX6_wipe_13 (fun C_1 H locs e_2 hT hF hP hD hS => ?_)
  have t_3 := hT
  refine lv_iload_n hx hb dX6_wipe_16 rfl (lv_at hl 0 rfl) ?_
  rw [hQ]
  exact W.iret (v := gi (C 5) 1) hx hb hr (fun t ht hW => ⟨⟨gi (C 5) 1, C_1, rfl, ⟨hT, hF, ⟨rfl, (show gi (C_1 5) 1 = (0 : Int32) by rw [e_2]; rfl)⟩⟩, ⟨by rw [ht]; exact hP, hD⟩⟩, hS.F ht⟩) hS.2.2 dX6_wipe_17
