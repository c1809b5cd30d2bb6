theorem bg_dX7_again_0 : bysAt cX7_again 0 [42, 27, 28, 182, 1, 4, 153, 0, 31, 29, 184, 0, 113, 153, 0, 24, 21, 4, 184, 0, 113, 153, 0, 16, 21, 5, 133, 10] := bysAt_of (by decide +kernel)
theorem dX7_again_0 : decode cX7_again 0 = .ok (.aload_n 0, 1) := o_42 (bg_dX7_again_0 0 42 rfl)
theorem dX7_again_1 : decode cX7_again 1 = .ok (.iload_n 1, 1) := o_27 (bg_dX7_again_0 1 27 rfl)
theorem dX7_again_2 : decode cX7_again 2 = .ok (.iload_n 2, 1) := o_28 (bg_dX7_again_0 2 28 rfl)
theorem dX7_again_3 : decode cX7_again 3 = .ok (.invokevirtual 260, 3) := o_182 (bg_dX7_again_0 3 182 rfl) (bg_dX7_again_0 4 1 rfl) (bg_dX7_again_0 5 4 rfl)
theorem dX7_again_6 : decode cX7_again 6 = .ok (.ifCond .eq 31, 3) := o_153 (bg_dX7_again_0 6 153 rfl) (bg_dX7_again_0 7 0 rfl) (bg_dX7_again_0 8 31 rfl) (by decide +kernel)
theorem dX7_again_9 : decode cX7_again 9 = .ok (.iload_n 3, 1) := o_29 (bg_dX7_again_0 9 29 rfl)
theorem dX7_again_10 : decode cX7_again 10 = .ok (.invokestatic 113, 3) := o_184 (bg_dX7_again_0 10 184 rfl) (bg_dX7_again_0 11 0 rfl) (bg_dX7_again_0 12 113 rfl)
theorem dX7_again_13 : decode cX7_again 13 = .ok (.ifCond .eq 24, 3) := o_153 (bg_dX7_again_0 13 153 rfl) (bg_dX7_again_0 14 0 rfl) (bg_dX7_again_0 15 24 rfl) (by decide +kernel)
theorem dX7_again_16 : decode cX7_again 16 = .ok (.iload 4, 2) := o_21 (bg_dX7_again_0 16 21 rfl) (bg_dX7_again_0 17 4 rfl)
theorem dX7_again_18 : decode cX7_again 18 = .ok (.invokestatic 113, 3) := o_184 (bg_dX7_again_0 18 184 rfl) (bg_dX7_again_0 19 0 rfl) (bg_dX7_again_0 20 113 rfl)
theorem dX7_again_21 : decode cX7_again 21 = .ok (.ifCond .eq 16, 3) := o_153 (bg_dX7_again_0 21 153 rfl) (bg_dX7_again_0 22 0 rfl) (bg_dX7_again_0 23 16 rfl) (by decide +kernel)
theorem dX7_again_24 : decode cX7_again 24 = .ok (.iload 5, 2) := o_21 (bg_dX7_again_0 24 21 rfl) (bg_dX7_again_0 25 5 rfl)
theorem dX7_again_26 : decode cX7_again 26 = .ok (.i2l, 1) := o_133 (bg_dX7_again_0 26 133 rfl)
theorem dX7_again_27 : decode cX7_again 27 = .ok (.lconst 1, 1) := o_10 (bg_dX7_again_0 27 10 rfl)
theorem bg_dX7_again_28 : bysAt cX7_again 28 [20, 1, 49, 184, 0, 62, 154, 0, 10, 42, 16, 254, 182, 0, 89, 172, 42, 27, 28, 29, 21, 4, 21, 5, 182, 1, 51] := bysAt_of (by decide +kernel)
theorem dX7_again_28 : decode cX7_again 28 = .ok (.ldc2_w 305, 3) := o_20 (bg_dX7_again_28 0 20 rfl) (bg_dX7_again_28 1 1 rfl) (bg_dX7_again_28 2 49 rfl)
theorem dX7_again_31 : decode cX7_again 31 = .ok (.invokestatic 62, 3) := o_184 (bg_dX7_again_28 3 184 rfl) (bg_dX7_again_28 4 0 rfl) (bg_dX7_again_28 5 62 rfl)
theorem dX7_again_34 : decode cX7_again 34 = .ok (.ifCond .ne 10, 3) := o_154 (bg_dX7_again_28 6 154 rfl) (bg_dX7_again_28 7 0 rfl) (bg_dX7_again_28 8 10 rfl) (by decide +kernel)
theorem dX7_again_37 : decode cX7_again 37 = .ok (.aload_n 0, 1) := o_42 (bg_dX7_again_28 9 42 rfl)
theorem dX7_again_38 : decode cX7_again 38 = .ok (.bipush (-2), 2) := o_16 (bg_dX7_again_28 10 16 rfl) (bg_dX7_again_28 11 254 rfl) (by decide +kernel)
theorem dX7_again_40 : decode cX7_again 40 = .ok (.invokevirtual 89, 3) := o_182 (bg_dX7_again_28 12 182 rfl) (bg_dX7_again_28 13 0 rfl) (bg_dX7_again_28 14 89 rfl)
theorem dX7_again_43 : decode cX7_again 43 = .ok (.ireturn, 1) := o_172 (bg_dX7_again_28 15 172 rfl)
theorem dX7_again_44 : decode cX7_again 44 = .ok (.aload_n 0, 1) := o_42 (bg_dX7_again_28 16 42 rfl)
theorem dX7_again_45 : decode cX7_again 45 = .ok (.iload_n 1, 1) := o_27 (bg_dX7_again_28 17 27 rfl)
theorem dX7_again_46 : decode cX7_again 46 = .ok (.iload_n 2, 1) := o_28 (bg_dX7_again_28 18 28 rfl)
theorem dX7_again_47 : decode cX7_again 47 = .ok (.iload_n 3, 1) := o_29 (bg_dX7_again_28 19 29 rfl)
theorem dX7_again_48 : decode cX7_again 48 = .ok (.iload 4, 2) := o_21 (bg_dX7_again_28 20 21 rfl) (bg_dX7_again_28 21 4 rfl)
theorem dX7_again_50 : decode cX7_again 50 = .ok (.iload 5, 2) := o_21 (bg_dX7_again_28 22 21 rfl) (bg_dX7_again_28 23 5 rfl)
theorem dX7_again_52 : decode cX7_again 52 = .ok (.invokevirtual 307, 3) := o_182 (bg_dX7_again_28 24 182 rfl) (bg_dX7_again_28 25 1 rfl) (bg_dX7_again_28 26 51 rfl)
theorem bg_dX7_again_55 : bysAt cX7_again 55 [54, 6, 21, 6, 2, 160, 0, 12, 42, 16, 251, 182, 0, 89, 167, 0, 5, 21, 6, 172] := bysAt_of (by decide +kernel)
theorem dX7_again_55 : decode cX7_again 55 = .ok (.istore 6, 2) := o_54 (bg_dX7_again_55 0 54 rfl) (bg_dX7_again_55 1 6 rfl)
theorem dX7_again_57 : decode cX7_again 57 = .ok (.iload 6, 2) := o_21 (bg_dX7_again_55 2 21 rfl) (bg_dX7_again_55 3 6 rfl)
theorem dX7_again_59 : decode cX7_again 59 = .ok (.iconst (-1), 1) := o_2 (bg_dX7_again_55 4 2 rfl)
theorem dX7_again_60 : decode cX7_again 60 = .ok (.if_icmp .ne 12, 3) := o_160 (bg_dX7_again_55 5 160 rfl) (bg_dX7_again_55 6 0 rfl) (bg_dX7_again_55 7 12 rfl) (by decide +kernel)
theorem dX7_again_63 : decode cX7_again 63 = .ok (.aload_n 0, 1) := o_42 (bg_dX7_again_55 8 42 rfl)
theorem dX7_again_64 : decode cX7_again 64 = .ok (.bipush (-5), 2) := o_16 (bg_dX7_again_55 9 16 rfl) (bg_dX7_again_55 10 251 rfl) (by decide +kernel)
theorem dX7_again_66 : decode cX7_again 66 = .ok (.invokevirtual 89, 3) := o_182 (bg_dX7_again_55 11 182 rfl) (bg_dX7_again_55 12 0 rfl) (bg_dX7_again_55 13 89 rfl)
theorem dX7_again_69 : decode cX7_again 69 = .ok (.goto 5, 3) := o_167 (bg_dX7_again_55 14 167 rfl) (bg_dX7_again_55 15 0 rfl) (bg_dX7_again_55 16 5 rfl) (by decide +kernel)
theorem dX7_again_72 : decode cX7_again 72 = .ok (.iload 6, 2) := o_21 (bg_dX7_again_55 17 21 rfl) (bg_dX7_again_55 18 6 rfl)
theorem dX7_again_74 : decode cX7_again 74 = .ok (.ireturn, 1) := o_172 (bg_dX7_again_55 19 172 rfl)
theorem bg_dX7_begin_0 : bysAt cX7_begin 0 [42, 27, 28, 182, 1, 4, 153, 0, 18, 29, 184, 0, 113, 153, 0, 11, 21, 4, 184, 0, 113, 154, 0, 10, 42, 16, 254, 182, 0, 89] := bysAt_of (by decide +kernel)
theorem dX7_begin_0 : decode cX7_begin 0 = .ok (.aload_n 0, 1) := o_42 (bg_dX7_begin_0 0 42 rfl)
theorem dX7_begin_1 : decode cX7_begin 1 = .ok (.iload_n 1, 1) := o_27 (bg_dX7_begin_0 1 27 rfl)
theorem dX7_begin_2 : decode cX7_begin 2 = .ok (.iload_n 2, 1) := o_28 (bg_dX7_begin_0 2 28 rfl)
theorem dX7_begin_3 : decode cX7_begin 3 = .ok (.invokevirtual 260, 3) := o_182 (bg_dX7_begin_0 3 182 rfl) (bg_dX7_begin_0 4 1 rfl) (bg_dX7_begin_0 5 4 rfl)
theorem dX7_begin_6 : decode cX7_begin 6 = .ok (.ifCond .eq 18, 3) := o_153 (bg_dX7_begin_0 6 153 rfl) (bg_dX7_begin_0 7 0 rfl) (bg_dX7_begin_0 8 18 rfl) (by decide +kernel)
theorem dX7_begin_9 : decode cX7_begin 9 = .ok (.iload_n 3, 1) := o_29 (bg_dX7_begin_0 9 29 rfl)
theorem dX7_begin_10 : decode cX7_begin 10 = .ok (.invokestatic 113, 3) := o_184 (bg_dX7_begin_0 10 184 rfl) (bg_dX7_begin_0 11 0 rfl) (bg_dX7_begin_0 12 113 rfl)
theorem dX7_begin_13 : decode cX7_begin 13 = .ok (.ifCond .eq 11, 3) := o_153 (bg_dX7_begin_0 13 153 rfl) (bg_dX7_begin_0 14 0 rfl) (bg_dX7_begin_0 15 11 rfl) (by decide +kernel)
theorem dX7_begin_16 : decode cX7_begin 16 = .ok (.iload 4, 2) := o_21 (bg_dX7_begin_0 16 21 rfl) (bg_dX7_begin_0 17 4 rfl)
theorem dX7_begin_18 : decode cX7_begin 18 = .ok (.invokestatic 113, 3) := o_184 (bg_dX7_begin_0 18 184 rfl) (bg_dX7_begin_0 19 0 rfl) (bg_dX7_begin_0 20 113 rfl)
theorem dX7_begin_21 : decode cX7_begin 21 = .ok (.ifCond .ne 10, 3) := o_154 (bg_dX7_begin_0 21 154 rfl) (bg_dX7_begin_0 22 0 rfl) (bg_dX7_begin_0 23 10 rfl) (by decide +kernel)
theorem dX7_begin_24 : decode cX7_begin 24 = .ok (.aload_n 0, 1) := o_42 (bg_dX7_begin_0 24 42 rfl)
theorem dX7_begin_25 : decode cX7_begin 25 = .ok (.bipush (-2), 2) := o_16 (bg_dX7_begin_0 25 16 rfl) (bg_dX7_begin_0 26 254 rfl) (by decide +kernel)
theorem dX7_begin_27 : decode cX7_begin 27 = .ok (.invokevirtual 89, 3) := o_182 (bg_dX7_begin_0 27 182 rfl) (bg_dX7_begin_0 28 0 rfl) (bg_dX7_begin_0 29 89 rfl)
theorem bg_dX7_begin_30 : bysAt cX7_begin 30 [172, 42, 180, 0, 54, 3, 4, 79, 42, 180, 0, 54, 4, 27, 79, 42, 180, 0, 54, 5] := bysAt_of (by decide +kernel)
theorem dX7_begin_30 : decode cX7_begin 30 = .ok (.ireturn, 1) := o_172 (bg_dX7_begin_30 0 172 rfl)
theorem dX7_begin_31 : decode cX7_begin 31 = .ok (.aload_n 0, 1) := o_42 (bg_dX7_begin_30 1 42 rfl)
theorem dX7_begin_32 : decode cX7_begin 32 = .ok (.getfield 54, 3) := o_180 (bg_dX7_begin_30 2 180 rfl) (bg_dX7_begin_30 3 0 rfl) (bg_dX7_begin_30 4 54 rfl)
theorem dX7_begin_35 : decode cX7_begin 35 = .ok (.iconst 0, 1) := o_3 (bg_dX7_begin_30 5 3 rfl)
theorem dX7_begin_36 : decode cX7_begin 36 = .ok (.iconst 1, 1) := o_4 (bg_dX7_begin_30 6 4 rfl)
theorem dX7_begin_37 : decode cX7_begin 37 = .ok (.iastore, 1) := o_79 (bg_dX7_begin_30 7 79 rfl)
theorem dX7_begin_38 : decode cX7_begin 38 = .ok (.aload_n 0, 1) := o_42 (bg_dX7_begin_30 8 42 rfl)
theorem dX7_begin_39 : decode cX7_begin 39 = .ok (.getfield 54, 3) := o_180 (bg_dX7_begin_30 9 180 rfl) (bg_dX7_begin_30 10 0 rfl) (bg_dX7_begin_30 11 54 rfl)
theorem dX7_begin_42 : decode cX7_begin 42 = .ok (.iconst 1, 1) := o_4 (bg_dX7_begin_30 12 4 rfl)
theorem dX7_begin_43 : decode cX7_begin 43 = .ok (.iload_n 1, 1) := o_27 (bg_dX7_begin_30 13 27 rfl)
theorem dX7_begin_44 : decode cX7_begin 44 = .ok (.iastore, 1) := o_79 (bg_dX7_begin_30 14 79 rfl)
theorem dX7_begin_45 : decode cX7_begin 45 = .ok (.aload_n 0, 1) := o_42 (bg_dX7_begin_30 15 42 rfl)
theorem dX7_begin_46 : decode cX7_begin 46 = .ok (.getfield 54, 3) := o_180 (bg_dX7_begin_30 16 180 rfl) (bg_dX7_begin_30 17 0 rfl) (bg_dX7_begin_30 18 54 rfl)
theorem dX7_begin_49 : decode cX7_begin 49 = .ok (.iconst 2, 1) := o_5 (bg_dX7_begin_30 19 5 rfl)
theorem bg_dX7_begin_50 : bysAt cX7_begin 50 [28, 79, 42, 180, 0, 54, 6, 29, 79, 42, 180, 0, 54, 7, 21, 4, 79, 42, 180, 0, 54] := bysAt_of (by decide +kernel)
theorem dX7_begin_50 : decode cX7_begin 50 = .ok (.iload_n 2, 1) := o_28 (bg_dX7_begin_50 0 28 rfl)
theorem dX7_begin_51 : decode cX7_begin 51 = .ok (.iastore, 1) := o_79 (bg_dX7_begin_50 1 79 rfl)
theorem dX7_begin_52 : decode cX7_begin 52 = .ok (.aload_n 0, 1) := o_42 (bg_dX7_begin_50 2 42 rfl)
theorem dX7_begin_53 : decode cX7_begin 53 = .ok (.getfield 54, 3) := o_180 (bg_dX7_begin_50 3 180 rfl) (bg_dX7_begin_50 4 0 rfl) (bg_dX7_begin_50 5 54 rfl)
theorem dX7_begin_56 : decode cX7_begin 56 = .ok (.iconst 3, 1) := o_6 (bg_dX7_begin_50 6 6 rfl)
theorem dX7_begin_57 : decode cX7_begin 57 = .ok (.iload_n 3, 1) := o_29 (bg_dX7_begin_50 7 29 rfl)
theorem dX7_begin_58 : decode cX7_begin 58 = .ok (.iastore, 1) := o_79 (bg_dX7_begin_50 8 79 rfl)
theorem dX7_begin_59 : decode cX7_begin 59 = .ok (.aload_n 0, 1) := o_42 (bg_dX7_begin_50 9 42 rfl)
theorem dX7_begin_60 : decode cX7_begin 60 = .ok (.getfield 54, 3) := o_180 (bg_dX7_begin_50 10 180 rfl) (bg_dX7_begin_50 11 0 rfl) (bg_dX7_begin_50 12 54 rfl)
theorem dX7_begin_63 : decode cX7_begin 63 = .ok (.iconst 4, 1) := o_7 (bg_dX7_begin_50 13 7 rfl)
theorem dX7_begin_64 : decode cX7_begin 64 = .ok (.iload 4, 2) := o_21 (bg_dX7_begin_50 14 21 rfl) (bg_dX7_begin_50 15 4 rfl)
theorem dX7_begin_66 : decode cX7_begin 66 = .ok (.iastore, 1) := o_79 (bg_dX7_begin_50 16 79 rfl)
theorem dX7_begin_67 : decode cX7_begin 67 = .ok (.aload_n 0, 1) := o_42 (bg_dX7_begin_50 17 42 rfl)
theorem dX7_begin_68 : decode cX7_begin 68 = .ok (.getfield 54, 3) := o_180 (bg_dX7_begin_50 18 180 rfl) (bg_dX7_begin_50 19 0 rfl) (bg_dX7_begin_50 20 54 rfl)
theorem bg_dX7_begin_71 : bysAt cX7_begin 71 [8, 3, 79, 42, 180, 0, 54, 16, 6, 3, 79, 42, 42, 28, 182, 1, 42, 181, 1, 68, 4] := bysAt_of (by decide +kernel)
theorem dX7_begin_71 : decode cX7_begin 71 = .ok (.iconst 5, 1) := o_8 (bg_dX7_begin_71 0 8 rfl)
theorem dX7_begin_72 : decode cX7_begin 72 = .ok (.iconst 0, 1) := o_3 (bg_dX7_begin_71 1 3 rfl)
theorem dX7_begin_73 : decode cX7_begin 73 = .ok (.iastore, 1) := o_79 (bg_dX7_begin_71 2 79 rfl)
theorem dX7_begin_74 : decode cX7_begin 74 = .ok (.aload_n 0, 1) := o_42 (bg_dX7_begin_71 3 42 rfl)
theorem dX7_begin_75 : decode cX7_begin 75 = .ok (.getfield 54, 3) := o_180 (bg_dX7_begin_71 4 180 rfl) (bg_dX7_begin_71 5 0 rfl) (bg_dX7_begin_71 6 54 rfl)
theorem dX7_begin_78 : decode cX7_begin 78 = .ok (.bipush 6, 2) := o_16 (bg_dX7_begin_71 7 16 rfl) (bg_dX7_begin_71 8 6 rfl) (by decide +kernel)
theorem dX7_begin_80 : decode cX7_begin 80 = .ok (.iconst 0, 1) := o_3 (bg_dX7_begin_71 9 3 rfl)
theorem dX7_begin_81 : decode cX7_begin 81 = .ok (.iastore, 1) := o_79 (bg_dX7_begin_71 10 79 rfl)
theorem dX7_begin_82 : decode cX7_begin 82 = .ok (.aload_n 0, 1) := o_42 (bg_dX7_begin_71 11 42 rfl)
theorem dX7_begin_83 : decode cX7_begin 83 = .ok (.aload_n 0, 1) := o_42 (bg_dX7_begin_71 12 42 rfl)
theorem dX7_begin_84 : decode cX7_begin 84 = .ok (.iload_n 2, 1) := o_28 (bg_dX7_begin_71 13 28 rfl)
theorem dX7_begin_85 : decode cX7_begin 85 = .ok (.invokevirtual 298, 3) := o_182 (bg_dX7_begin_71 14 182 rfl) (bg_dX7_begin_71 15 1 rfl) (bg_dX7_begin_71 16 42 rfl)
theorem dX7_begin_88 : decode cX7_begin 88 = .ok (.putfield 324, 3) := o_181 (bg_dX7_begin_71 17 181 rfl) (bg_dX7_begin_71 18 1 rfl) (bg_dX7_begin_71 19 68 rfl)
theorem dX7_begin_91 : decode cX7_begin 91 = .ok (.iconst 1, 1) := o_4 (bg_dX7_begin_71 20 4 rfl)
theorem bg_dX7_begin_92 : bysAt cX7_begin 92 [172] := bysAt_of (by decide +kernel)
theorem dX7_begin_92 : decode cX7_begin 92 = .ok (.ireturn, 1) := o_172 (bg_dX7_begin_92 0 172 rfl)
theorem bg_dX7_best_0 : bysAt cX7_best 0 [27, 184, 0, 113, 153, 0, 22, 28, 184, 0, 113, 153, 0, 15, 29, 133, 9, 20, 0, 134, 184, 0, 62, 154, 0, 10, 42, 16, 254] := bysAt_of (by decide +kernel)
theorem dX7_best_0 : decode cX7_best 0 = .ok (.iload_n 1, 1) := o_27 (bg_dX7_best_0 0 27 rfl)
theorem dX7_best_1 : decode cX7_best 1 = .ok (.invokestatic 113, 3) := o_184 (bg_dX7_best_0 1 184 rfl) (bg_dX7_best_0 2 0 rfl) (bg_dX7_best_0 3 113 rfl)
theorem dX7_best_4 : decode cX7_best 4 = .ok (.ifCond .eq 22, 3) := o_153 (bg_dX7_best_0 4 153 rfl) (bg_dX7_best_0 5 0 rfl) (bg_dX7_best_0 6 22 rfl) (by decide +kernel)
theorem dX7_best_7 : decode cX7_best 7 = .ok (.iload_n 2, 1) := o_28 (bg_dX7_best_0 7 28 rfl)
theorem dX7_best_8 : decode cX7_best 8 = .ok (.invokestatic 113, 3) := o_184 (bg_dX7_best_0 8 184 rfl) (bg_dX7_best_0 9 0 rfl) (bg_dX7_best_0 10 113 rfl)
theorem dX7_best_11 : decode cX7_best 11 = .ok (.ifCond .eq 15, 3) := o_153 (bg_dX7_best_0 11 153 rfl) (bg_dX7_best_0 12 0 rfl) (bg_dX7_best_0 13 15 rfl) (by decide +kernel)
theorem dX7_best_14 : decode cX7_best 14 = .ok (.iload_n 3, 1) := o_29 (bg_dX7_best_0 14 29 rfl)
theorem dX7_best_15 : decode cX7_best 15 = .ok (.i2l, 1) := o_133 (bg_dX7_best_0 15 133 rfl)
theorem dX7_best_16 : decode cX7_best 16 = .ok (.lconst 0, 1) := o_9 (bg_dX7_best_0 16 9 rfl)
theorem dX7_best_17 : decode cX7_best 17 = .ok (.ldc2_w 134, 3) := o_20 (bg_dX7_best_0 17 20 rfl) (bg_dX7_best_0 18 0 rfl) (bg_dX7_best_0 19 134 rfl)
theorem dX7_best_20 : decode cX7_best 20 = .ok (.invokestatic 62, 3) := o_184 (bg_dX7_best_0 20 184 rfl) (bg_dX7_best_0 21 0 rfl) (bg_dX7_best_0 22 62 rfl)
theorem dX7_best_23 : decode cX7_best 23 = .ok (.ifCond .ne 10, 3) := o_154 (bg_dX7_best_0 23 154 rfl) (bg_dX7_best_0 24 0 rfl) (bg_dX7_best_0 25 10 rfl) (by decide +kernel)
theorem dX7_best_26 : decode cX7_best 26 = .ok (.aload_n 0, 1) := o_42 (bg_dX7_best_0 26 42 rfl)
theorem dX7_best_27 : decode cX7_best 27 = .ok (.bipush (-2), 2) := o_16 (bg_dX7_best_0 27 16 rfl) (bg_dX7_best_0 28 254 rfl) (by decide +kernel)
theorem bg_dX7_best_29 : bysAt cX7_best 29 [182, 0, 89, 172, 2, 54, 4, 3, 54, 5, 3, 54, 6, 21, 6, 42, 180, 0, 73, 162, 0, 75, 3, 54, 7] := bysAt_of (by decide +kernel)
theorem dX7_best_29 : decode cX7_best 29 = .ok (.invokevirtual 89, 3) := o_182 (bg_dX7_best_29 0 182 rfl) (bg_dX7_best_29 1 0 rfl) (bg_dX7_best_29 2 89 rfl)
theorem dX7_best_32 : decode cX7_best 32 = .ok (.ireturn, 1) := o_172 (bg_dX7_best_29 3 172 rfl)
theorem dX7_best_33 : decode cX7_best 33 = .ok (.iconst (-1), 1) := o_2 (bg_dX7_best_29 4 2 rfl)
theorem dX7_best_34 : decode cX7_best 34 = .ok (.istore 4, 2) := o_54 (bg_dX7_best_29 5 54 rfl) (bg_dX7_best_29 6 4 rfl)
theorem dX7_best_36 : decode cX7_best 36 = .ok (.iconst 0, 1) := o_3 (bg_dX7_best_29 7 3 rfl)
theorem dX7_best_37 : decode cX7_best 37 = .ok (.istore 5, 2) := o_54 (bg_dX7_best_29 8 54 rfl) (bg_dX7_best_29 9 5 rfl)
theorem dX7_best_39 : decode cX7_best 39 = .ok (.iconst 0, 1) := o_3 (bg_dX7_best_29 10 3 rfl)
theorem dX7_best_40 : decode cX7_best 40 = .ok (.istore 6, 2) := o_54 (bg_dX7_best_29 11 54 rfl) (bg_dX7_best_29 12 6 rfl)
theorem dX7_best_42 : decode cX7_best 42 = .ok (.iload 6, 2) := o_21 (bg_dX7_best_29 13 21 rfl) (bg_dX7_best_29 14 6 rfl)
theorem dX7_best_44 : decode cX7_best 44 = .ok (.aload_n 0, 1) := o_42 (bg_dX7_best_29 15 42 rfl)
theorem dX7_best_45 : decode cX7_best 45 = .ok (.getfield 73, 3) := o_180 (bg_dX7_best_29 16 180 rfl) (bg_dX7_best_29 17 0 rfl) (bg_dX7_best_29 18 73 rfl)
theorem dX7_best_48 : decode cX7_best 48 = .ok (.if_icmp .ge 75, 3) := o_162 (bg_dX7_best_29 19 162 rfl) (bg_dX7_best_29 20 0 rfl) (bg_dX7_best_29 21 75 rfl) (by decide +kernel)
theorem dX7_best_51 : decode cX7_best 51 = .ok (.iconst 0, 1) := o_3 (bg_dX7_best_29 22 3 rfl)
theorem dX7_best_52 : decode cX7_best 52 = .ok (.istore 7, 2) := o_54 (bg_dX7_best_29 23 54 rfl) (bg_dX7_best_29 24 7 rfl)
theorem bg_dX7_best_54 : bysAt cX7_best 54 [21, 7, 4, 42, 180, 0, 80, 120, 162, 0, 55, 42, 21, 6, 21, 7, 27, 28, 4, 182, 1, 51, 54, 8] := bysAt_of (by decide +kernel)
theorem dX7_best_54 : decode cX7_best 54 = .ok (.iload 7, 2) := o_21 (bg_dX7_best_54 0 21 rfl) (bg_dX7_best_54 1 7 rfl)
theorem dX7_best_56 : decode cX7_best 56 = .ok (.iconst 1, 1) := o_4 (bg_dX7_best_54 2 4 rfl)
theorem dX7_best_57 : decode cX7_best 57 = .ok (.aload_n 0, 1) := o_42 (bg_dX7_best_54 3 42 rfl)
theorem dX7_best_58 : decode cX7_best 58 = .ok (.getfield 80, 3) := o_180 (bg_dX7_best_54 4 180 rfl) (bg_dX7_best_54 5 0 rfl) (bg_dX7_best_54 6 80 rfl)
theorem dX7_best_61 : decode cX7_best 61 = .ok (.ishl, 1) := o_120 (bg_dX7_best_54 7 120 rfl)
theorem dX7_best_62 : decode cX7_best 62 = .ok (.if_icmp .ge 55, 3) := o_162 (bg_dX7_best_54 8 162 rfl) (bg_dX7_best_54 9 0 rfl) (bg_dX7_best_54 10 55 rfl) (by decide +kernel)
theorem dX7_best_65 : decode cX7_best 65 = .ok (.aload_n 0, 1) := o_42 (bg_dX7_best_54 11 42 rfl)
theorem dX7_best_66 : decode cX7_best 66 = .ok (.iload 6, 2) := o_21 (bg_dX7_best_54 12 21 rfl) (bg_dX7_best_54 13 6 rfl)
theorem dX7_best_68 : decode cX7_best 68 = .ok (.iload 7, 2) := o_21 (bg_dX7_best_54 14 21 rfl) (bg_dX7_best_54 15 7 rfl)
theorem dX7_best_70 : decode cX7_best 70 = .ok (.iload_n 1, 1) := o_27 (bg_dX7_best_54 16 27 rfl)
theorem dX7_best_71 : decode cX7_best 71 = .ok (.iload_n 2, 1) := o_28 (bg_dX7_best_54 17 28 rfl)
theorem dX7_best_72 : decode cX7_best 72 = .ok (.iconst 1, 1) := o_4 (bg_dX7_best_54 18 4 rfl)
theorem dX7_best_73 : decode cX7_best 73 = .ok (.invokevirtual 307, 3) := o_182 (bg_dX7_best_54 19 182 rfl) (bg_dX7_best_54 20 1 rfl) (bg_dX7_best_54 21 51 rfl)
theorem dX7_best_76 : decode cX7_best 76 = .ok (.istore 8, 2) := o_54 (bg_dX7_best_54 22 54 rfl) (bg_dX7_best_54 23 8 rfl)
theorem bg_dX7_best_78 : bysAt cX7_best 78 [21, 8, 2, 159, 0, 30, 21, 4, 2, 159, 0, 10, 21, 8, 21, 5, 162, 0, 17, 16, 100, 21, 6, 104, 21, 7, 96] := bysAt_of (by decide +kernel)
theorem dX7_best_78 : decode cX7_best 78 = .ok (.iload 8, 2) := o_21 (bg_dX7_best_78 0 21 rfl) (bg_dX7_best_78 1 8 rfl)
theorem dX7_best_80 : decode cX7_best 80 = .ok (.iconst (-1), 1) := o_2 (bg_dX7_best_78 2 2 rfl)
theorem dX7_best_81 : decode cX7_best 81 = .ok (.if_icmp .eq 30, 3) := o_159 (bg_dX7_best_78 3 159 rfl) (bg_dX7_best_78 4 0 rfl) (bg_dX7_best_78 5 30 rfl) (by decide +kernel)
theorem dX7_best_84 : decode cX7_best 84 = .ok (.iload 4, 2) := o_21 (bg_dX7_best_78 6 21 rfl) (bg_dX7_best_78 7 4 rfl)
theorem dX7_best_86 : decode cX7_best 86 = .ok (.iconst (-1), 1) := o_2 (bg_dX7_best_78 8 2 rfl)
theorem dX7_best_87 : decode cX7_best 87 = .ok (.if_icmp .eq 10, 3) := o_159 (bg_dX7_best_78 9 159 rfl) (bg_dX7_best_78 10 0 rfl) (bg_dX7_best_78 11 10 rfl) (by decide +kernel)
theorem dX7_best_90 : decode cX7_best 90 = .ok (.iload 8, 2) := o_21 (bg_dX7_best_78 12 21 rfl) (bg_dX7_best_78 13 8 rfl)
theorem dX7_best_92 : decode cX7_best 92 = .ok (.iload 5, 2) := o_21 (bg_dX7_best_78 14 21 rfl) (bg_dX7_best_78 15 5 rfl)
theorem dX7_best_94 : decode cX7_best 94 = .ok (.if_icmp .ge 17, 3) := o_162 (bg_dX7_best_78 16 162 rfl) (bg_dX7_best_78 17 0 rfl) (bg_dX7_best_78 18 17 rfl) (by decide +kernel)
theorem dX7_best_97 : decode cX7_best 97 = .ok (.bipush 100, 2) := o_16 (bg_dX7_best_78 19 16 rfl) (bg_dX7_best_78 20 100 rfl) (by decide +kernel)
theorem dX7_best_99 : decode cX7_best 99 = .ok (.iload 6, 2) := o_21 (bg_dX7_best_78 21 21 rfl) (bg_dX7_best_78 22 6 rfl)
theorem dX7_best_101 : decode cX7_best 101 = .ok (.imul, 1) := o_104 (bg_dX7_best_78 23 104 rfl)
theorem dX7_best_102 : decode cX7_best 102 = .ok (.iload 7, 2) := o_21 (bg_dX7_best_78 24 21 rfl) (bg_dX7_best_78 25 7 rfl)
theorem dX7_best_104 : decode cX7_best 104 = .ok (.iadd, 1) := o_96 (bg_dX7_best_78 26 96 rfl)
theorem bg_dX7_best_105 : bysAt cX7_best 105 [54, 4, 21, 8, 54, 5, 132, 7, 1, 167, 255, 196, 132, 6, 1, 167, 255, 178, 21, 4, 2, 160, 0, 10, 42, 16, 251, 182, 0, 89, 172, 29, 154, 0, 11] := bysAt_of (by decide +kernel)
theorem dX7_best_105 : decode cX7_best 105 = .ok (.istore 4, 2) := o_54 (bg_dX7_best_105 0 54 rfl) (bg_dX7_best_105 1 4 rfl)
theorem dX7_best_107 : decode cX7_best 107 = .ok (.iload 8, 2) := o_21 (bg_dX7_best_105 2 21 rfl) (bg_dX7_best_105 3 8 rfl)
theorem dX7_best_109 : decode cX7_best 109 = .ok (.istore 5, 2) := o_54 (bg_dX7_best_105 4 54 rfl) (bg_dX7_best_105 5 5 rfl)
theorem dX7_best_114 : decode cX7_best 114 = .ok (.goto (-60), 3) := o_167 (bg_dX7_best_105 9 167 rfl) (bg_dX7_best_105 10 255 rfl) (bg_dX7_best_105 11 196 rfl) (by decide +kernel)
theorem dX7_best_120 : decode cX7_best 120 = .ok (.goto (-78), 3) := o_167 (bg_dX7_best_105 15 167 rfl) (bg_dX7_best_105 16 255 rfl) (bg_dX7_best_105 17 178 rfl) (by decide +kernel)
theorem dX7_best_123 : decode cX7_best 123 = .ok (.iload 4, 2) := o_21 (bg_dX7_best_105 18 21 rfl) (bg_dX7_best_105 19 4 rfl)
theorem dX7_best_125 : decode cX7_best 125 = .ok (.iconst (-1), 1) := o_2 (bg_dX7_best_105 20 2 rfl)
theorem dX7_best_126 : decode cX7_best 126 = .ok (.if_icmp .ne 10, 3) := o_160 (bg_dX7_best_105 21 160 rfl) (bg_dX7_best_105 22 0 rfl) (bg_dX7_best_105 23 10 rfl) (by decide +kernel)
theorem dX7_best_129 : decode cX7_best 129 = .ok (.aload_n 0, 1) := o_42 (bg_dX7_best_105 24 42 rfl)
theorem dX7_best_130 : decode cX7_best 130 = .ok (.bipush (-5), 2) := o_16 (bg_dX7_best_105 25 16 rfl) (bg_dX7_best_105 26 251 rfl) (by decide +kernel)
theorem dX7_best_132 : decode cX7_best 132 = .ok (.invokevirtual 89, 3) := o_182 (bg_dX7_best_105 27 182 rfl) (bg_dX7_best_105 28 0 rfl) (bg_dX7_best_105 29 89 rfl)
theorem dX7_best_135 : decode cX7_best 135 = .ok (.ireturn, 1) := o_172 (bg_dX7_best_105 30 172 rfl)
theorem dX7_best_136 : decode cX7_best 136 = .ok (.iload_n 3, 1) := o_29 (bg_dX7_best_105 31 29 rfl)
theorem dX7_best_137 : decode cX7_best 137 = .ok (.ifCond .ne 11, 3) := o_154 (bg_dX7_best_105 32 154 rfl) (bg_dX7_best_105 33 0 rfl) (bg_dX7_best_105 34 11 rfl) (by decide +kernel)
theorem bg_dX7_best_140 : bysAt cX7_best 140 [21, 4, 16, 100, 108, 167, 0, 18, 29, 4, 160, 0, 11, 21, 4, 16, 100, 112, 167, 0, 5, 21, 5, 172] := bysAt_of (by decide +kernel)
theorem dX7_best_140 : decode cX7_best 140 = .ok (.iload 4, 2) := o_21 (bg_dX7_best_140 0 21 rfl) (bg_dX7_best_140 1 4 rfl)
theorem dX7_best_142 : decode cX7_best 142 = .ok (.bipush 100, 2) := o_16 (bg_dX7_best_140 2 16 rfl) (bg_dX7_best_140 3 100 rfl) (by decide +kernel)
theorem dX7_best_144 : decode cX7_best 144 = .ok (.idiv, 1) := o_108 (bg_dX7_best_140 4 108 rfl)
theorem dX7_best_145 : decode cX7_best 145 = .ok (.goto 18, 3) := o_167 (bg_dX7_best_140 5 167 rfl) (bg_dX7_best_140 6 0 rfl) (bg_dX7_best_140 7 18 rfl) (by decide +kernel)
theorem dX7_best_148 : decode cX7_best 148 = .ok (.iload_n 3, 1) := o_29 (bg_dX7_best_140 8 29 rfl)
theorem dX7_best_149 : decode cX7_best 149 = .ok (.iconst 1, 1) := o_4 (bg_dX7_best_140 9 4 rfl)
theorem dX7_best_150 : decode cX7_best 150 = .ok (.if_icmp .ne 11, 3) := o_160 (bg_dX7_best_140 10 160 rfl) (bg_dX7_best_140 11 0 rfl) (bg_dX7_best_140 12 11 rfl) (by decide +kernel)
theorem dX7_best_153 : decode cX7_best 153 = .ok (.iload 4, 2) := o_21 (bg_dX7_best_140 13 21 rfl) (bg_dX7_best_140 14 4 rfl)
theorem dX7_best_155 : decode cX7_best 155 = .ok (.bipush 100, 2) := o_16 (bg_dX7_best_140 15 16 rfl) (bg_dX7_best_140 16 100 rfl) (by decide +kernel)
theorem dX7_best_157 : decode cX7_best 157 = .ok (.irem, 1) := o_112 (bg_dX7_best_140 17 112 rfl)
theorem dX7_best_158 : decode cX7_best 158 = .ok (.goto 5, 3) := o_167 (bg_dX7_best_140 18 167 rfl) (bg_dX7_best_140 19 0 rfl) (bg_dX7_best_140 20 5 rfl) (by decide +kernel)
theorem dX7_best_161 : decode cX7_best 161 = .ok (.iload 5, 2) := o_21 (bg_dX7_best_140 21 21 rfl) (bg_dX7_best_140 22 5 rfl)
theorem dX7_best_163 : decode cX7_best 163 = .ok (.ireturn, 1) := o_172 (bg_dX7_best_140 23 172 rfl)
theorem bg_dX7_cheapest_0 : bysAt cX7_cheapest 0 [42, 27, 28, 29, 21, 4, 4, 182, 1, 45, 172] := bysAt_of (by decide +kernel)
theorem dX7_cheapest_0 : decode cX7_cheapest 0 = .ok (.aload_n 0, 1) := o_42 (bg_dX7_cheapest_0 0 42 rfl)
theorem dX7_cheapest_1 : decode cX7_cheapest 1 = .ok (.iload_n 1, 1) := o_27 (bg_dX7_cheapest_0 1 27 rfl)
theorem dX7_cheapest_2 : decode cX7_cheapest 2 = .ok (.iload_n 2, 1) := o_28 (bg_dX7_cheapest_0 2 28 rfl)
theorem dX7_cheapest_3 : decode cX7_cheapest 3 = .ok (.iload_n 3, 1) := o_29 (bg_dX7_cheapest_0 3 29 rfl)
theorem dX7_cheapest_4 : decode cX7_cheapest 4 = .ok (.iload 4, 2) := o_21 (bg_dX7_cheapest_0 4 21 rfl) (bg_dX7_cheapest_0 5 4 rfl)
theorem dX7_cheapest_6 : decode cX7_cheapest 6 = .ok (.iconst 1, 1) := o_4 (bg_dX7_cheapest_0 6 4 rfl)
theorem dX7_cheapest_7 : decode cX7_cheapest 7 = .ok (.invokevirtual 301, 3) := o_182 (bg_dX7_cheapest_0 7 182 rfl) (bg_dX7_cheapest_0 8 1 rfl) (bg_dX7_cheapest_0 9 45 rfl)
theorem dX7_cheapest_10 : decode cX7_cheapest 10 = .ok (.ireturn, 1) := o_172 (bg_dX7_cheapest_0 10 172 rfl)
theorem bg_dX7_fewest_0 : bysAt cX7_fewest 0 [42, 27, 182, 0, 76, 153, 0, 17, 28, 184, 0, 113, 153, 0, 10, 29, 184, 0, 113, 154, 0, 10, 42, 16, 254, 182, 0, 89, 172] := bysAt_of (by decide +kernel)
theorem dX7_fewest_0 : decode cX7_fewest 0 = .ok (.aload_n 0, 1) := o_42 (bg_dX7_fewest_0 0 42 rfl)
theorem dX7_fewest_1 : decode cX7_fewest 1 = .ok (.iload_n 1, 1) := o_27 (bg_dX7_fewest_0 1 27 rfl)
theorem dX7_fewest_2 : decode cX7_fewest 2 = .ok (.invokevirtual 76, 3) := o_182 (bg_dX7_fewest_0 2 182 rfl) (bg_dX7_fewest_0 3 0 rfl) (bg_dX7_fewest_0 4 76 rfl)
theorem dX7_fewest_5 : decode cX7_fewest 5 = .ok (.ifCond .eq 17, 3) := o_153 (bg_dX7_fewest_0 5 153 rfl) (bg_dX7_fewest_0 6 0 rfl) (bg_dX7_fewest_0 7 17 rfl) (by decide +kernel)
theorem dX7_fewest_8 : decode cX7_fewest 8 = .ok (.iload_n 2, 1) := o_28 (bg_dX7_fewest_0 8 28 rfl)
theorem dX7_fewest_9 : decode cX7_fewest 9 = .ok (.invokestatic 113, 3) := o_184 (bg_dX7_fewest_0 9 184 rfl) (bg_dX7_fewest_0 10 0 rfl) (bg_dX7_fewest_0 11 113 rfl)
theorem dX7_fewest_12 : decode cX7_fewest 12 = .ok (.ifCond .eq 10, 3) := o_153 (bg_dX7_fewest_0 12 153 rfl) (bg_dX7_fewest_0 13 0 rfl) (bg_dX7_fewest_0 14 10 rfl) (by decide +kernel)
theorem dX7_fewest_15 : decode cX7_fewest 15 = .ok (.iload_n 3, 1) := o_29 (bg_dX7_fewest_0 15 29 rfl)
theorem dX7_fewest_16 : decode cX7_fewest 16 = .ok (.invokestatic 113, 3) := o_184 (bg_dX7_fewest_0 16 184 rfl) (bg_dX7_fewest_0 17 0 rfl) (bg_dX7_fewest_0 18 113 rfl)
theorem dX7_fewest_19 : decode cX7_fewest 19 = .ok (.ifCond .ne 10, 3) := o_154 (bg_dX7_fewest_0 19 154 rfl) (bg_dX7_fewest_0 20 0 rfl) (bg_dX7_fewest_0 21 10 rfl) (by decide +kernel)
theorem dX7_fewest_22 : decode cX7_fewest 22 = .ok (.aload_n 0, 1) := o_42 (bg_dX7_fewest_0 22 42 rfl)
theorem dX7_fewest_23 : decode cX7_fewest 23 = .ok (.bipush (-2), 2) := o_16 (bg_dX7_fewest_0 23 16 rfl) (bg_dX7_fewest_0 24 254 rfl) (by decide +kernel)
theorem dX7_fewest_25 : decode cX7_fewest 25 = .ok (.invokevirtual 89, 3) := o_182 (bg_dX7_fewest_0 25 182 rfl) (bg_dX7_fewest_0 26 0 rfl) (bg_dX7_fewest_0 27 89 rfl)
theorem dX7_fewest_28 : decode cX7_fewest 28 = .ok (.ireturn, 1) := o_172 (bg_dX7_fewest_0 28 172 rfl)
theorem bg_dX7_fewest_29 : bysAt cX7_fewest 29 [3, 54, 4, 21, 4, 42, 180, 0, 80, 163, 0, 56, 3, 54, 5, 21, 5, 4, 42, 180, 0, 80, 120, 162, 0, 36] := bysAt_of (by decide +kernel)
theorem dX7_fewest_29 : decode cX7_fewest 29 = .ok (.iconst 0, 1) := o_3 (bg_dX7_fewest_29 0 3 rfl)
theorem dX7_fewest_30 : decode cX7_fewest 30 = .ok (.istore 4, 2) := o_54 (bg_dX7_fewest_29 1 54 rfl) (bg_dX7_fewest_29 2 4 rfl)
theorem dX7_fewest_32 : decode cX7_fewest 32 = .ok (.iload 4, 2) := o_21 (bg_dX7_fewest_29 3 21 rfl) (bg_dX7_fewest_29 4 4 rfl)
theorem dX7_fewest_34 : decode cX7_fewest 34 = .ok (.aload_n 0, 1) := o_42 (bg_dX7_fewest_29 5 42 rfl)
theorem dX7_fewest_35 : decode cX7_fewest 35 = .ok (.getfield 80, 3) := o_180 (bg_dX7_fewest_29 6 180 rfl) (bg_dX7_fewest_29 7 0 rfl) (bg_dX7_fewest_29 8 80 rfl)
theorem dX7_fewest_38 : decode cX7_fewest 38 = .ok (.if_icmp .gt 56, 3) := o_163 (bg_dX7_fewest_29 9 163 rfl) (bg_dX7_fewest_29 10 0 rfl) (bg_dX7_fewest_29 11 56 rfl) (by decide +kernel)
theorem dX7_fewest_41 : decode cX7_fewest 41 = .ok (.iconst 0, 1) := o_3 (bg_dX7_fewest_29 12 3 rfl)
theorem dX7_fewest_42 : decode cX7_fewest 42 = .ok (.istore 5, 2) := o_54 (bg_dX7_fewest_29 13 54 rfl) (bg_dX7_fewest_29 14 5 rfl)
theorem dX7_fewest_44 : decode cX7_fewest 44 = .ok (.iload 5, 2) := o_21 (bg_dX7_fewest_29 15 21 rfl) (bg_dX7_fewest_29 16 5 rfl)
theorem dX7_fewest_46 : decode cX7_fewest 46 = .ok (.iconst 1, 1) := o_4 (bg_dX7_fewest_29 17 4 rfl)
theorem dX7_fewest_47 : decode cX7_fewest 47 = .ok (.aload_n 0, 1) := o_42 (bg_dX7_fewest_29 18 42 rfl)
theorem dX7_fewest_48 : decode cX7_fewest 48 = .ok (.getfield 80, 3) := o_180 (bg_dX7_fewest_29 19 180 rfl) (bg_dX7_fewest_29 20 0 rfl) (bg_dX7_fewest_29 21 80 rfl)
theorem dX7_fewest_51 : decode cX7_fewest 51 = .ok (.ishl, 1) := o_120 (bg_dX7_fewest_29 22 120 rfl)
theorem dX7_fewest_52 : decode cX7_fewest 52 = .ok (.if_icmp .ge 36, 3) := o_162 (bg_dX7_fewest_29 23 162 rfl) (bg_dX7_fewest_29 24 0 rfl) (bg_dX7_fewest_29 25 36 rfl) (by decide +kernel)
theorem bg_dX7_fewest_55 : bysAt cX7_fewest 55 [21, 5, 184, 1, 65, 21, 4, 160, 0, 20, 42, 27, 21, 5, 28, 29, 4, 182, 1, 51, 2, 159, 0, 6, 21, 5] := bysAt_of (by decide +kernel)
theorem dX7_fewest_55 : decode cX7_fewest 55 = .ok (.iload 5, 2) := o_21 (bg_dX7_fewest_55 0 21 rfl) (bg_dX7_fewest_55 1 5 rfl)
theorem dX7_fewest_57 : decode cX7_fewest 57 = .ok (.invokestatic 321, 3) := o_184 (bg_dX7_fewest_55 2 184 rfl) (bg_dX7_fewest_55 3 1 rfl) (bg_dX7_fewest_55 4 65 rfl)
theorem dX7_fewest_60 : decode cX7_fewest 60 = .ok (.iload 4, 2) := o_21 (bg_dX7_fewest_55 5 21 rfl) (bg_dX7_fewest_55 6 4 rfl)
theorem dX7_fewest_62 : decode cX7_fewest 62 = .ok (.if_icmp .ne 20, 3) := o_160 (bg_dX7_fewest_55 7 160 rfl) (bg_dX7_fewest_55 8 0 rfl) (bg_dX7_fewest_55 9 20 rfl) (by decide +kernel)
theorem dX7_fewest_65 : decode cX7_fewest 65 = .ok (.aload_n 0, 1) := o_42 (bg_dX7_fewest_55 10 42 rfl)
theorem dX7_fewest_66 : decode cX7_fewest 66 = .ok (.iload_n 1, 1) := o_27 (bg_dX7_fewest_55 11 27 rfl)
theorem dX7_fewest_67 : decode cX7_fewest 67 = .ok (.iload 5, 2) := o_21 (bg_dX7_fewest_55 12 21 rfl) (bg_dX7_fewest_55 13 5 rfl)
theorem dX7_fewest_69 : decode cX7_fewest 69 = .ok (.iload_n 2, 1) := o_28 (bg_dX7_fewest_55 14 28 rfl)
theorem dX7_fewest_70 : decode cX7_fewest 70 = .ok (.iload_n 3, 1) := o_29 (bg_dX7_fewest_55 15 29 rfl)
theorem dX7_fewest_71 : decode cX7_fewest 71 = .ok (.iconst 1, 1) := o_4 (bg_dX7_fewest_55 16 4 rfl)
theorem dX7_fewest_72 : decode cX7_fewest 72 = .ok (.invokevirtual 307, 3) := o_182 (bg_dX7_fewest_55 17 182 rfl) (bg_dX7_fewest_55 18 1 rfl) (bg_dX7_fewest_55 19 51 rfl)
theorem dX7_fewest_75 : decode cX7_fewest 75 = .ok (.iconst (-1), 1) := o_2 (bg_dX7_fewest_55 20 2 rfl)
theorem dX7_fewest_76 : decode cX7_fewest 76 = .ok (.if_icmp .eq 6, 3) := o_159 (bg_dX7_fewest_55 21 159 rfl) (bg_dX7_fewest_55 22 0 rfl) (bg_dX7_fewest_55 23 6 rfl) (by decide +kernel)
theorem dX7_fewest_79 : decode cX7_fewest 79 = .ok (.iload 5, 2) := o_21 (bg_dX7_fewest_55 24 21 rfl) (bg_dX7_fewest_55 25 5 rfl)
theorem bg_dX7_fewest_81 : bysAt cX7_fewest 81 [172, 132, 5, 1, 167, 255, 215, 132, 4, 1, 167, 255, 197, 42, 16, 251, 182, 0, 89, 172] := bysAt_of (by decide +kernel)
theorem dX7_fewest_81 : decode cX7_fewest 81 = .ok (.ireturn, 1) := o_172 (bg_dX7_fewest_81 0 172 rfl)
theorem dX7_fewest_85 : decode cX7_fewest 85 = .ok (.goto (-41), 3) := o_167 (bg_dX7_fewest_81 4 167 rfl) (bg_dX7_fewest_81 5 255 rfl) (bg_dX7_fewest_81 6 215 rfl) (by decide +kernel)
theorem dX7_fewest_91 : decode cX7_fewest 91 = .ok (.goto (-59), 3) := o_167 (bg_dX7_fewest_81 10 167 rfl) (bg_dX7_fewest_81 11 255 rfl) (bg_dX7_fewest_81 12 197 rfl) (by decide +kernel)
theorem dX7_fewest_94 : decode cX7_fewest 94 = .ok (.aload_n 0, 1) := o_42 (bg_dX7_fewest_81 13 42 rfl)
theorem dX7_fewest_95 : decode cX7_fewest 95 = .ok (.bipush (-5), 2) := o_16 (bg_dX7_fewest_81 14 16 rfl) (bg_dX7_fewest_81 15 251 rfl) (by decide +kernel)
theorem dX7_fewest_97 : decode cX7_fewest 97 = .ok (.invokevirtual 89, 3) := o_182 (bg_dX7_fewest_81 16 182 rfl) (bg_dX7_fewest_81 17 0 rfl) (bg_dX7_fewest_81 18 89 rfl)
theorem dX7_fewest_100 : decode cX7_fewest 100 = .ok (.ireturn, 1) := o_172 (bg_dX7_fewest_81 19 172 rfl)
theorem bg_dX7_firstWrong_0 : bysAt cX7_firstWrong 0 [29, 54, 6, 3, 54, 7, 21, 7, 21, 5, 162, 0, 140, 42, 180, 0, 21, 21, 4, 50, 21, 7, 47, 9] := bysAt_of (by decide +kernel)
theorem dX7_firstWrong_0 : decode cX7_firstWrong 0 = .ok (.iload_n 3, 1) := o_29 (bg_dX7_firstWrong_0 0 29 rfl)
theorem dX7_firstWrong_1 : decode cX7_firstWrong 1 = .ok (.istore 6, 2) := o_54 (bg_dX7_firstWrong_0 1 54 rfl) (bg_dX7_firstWrong_0 2 6 rfl)
theorem dX7_firstWrong_3 : decode cX7_firstWrong 3 = .ok (.iconst 0, 1) := o_3 (bg_dX7_firstWrong_0 3 3 rfl)
theorem dX7_firstWrong_4 : decode cX7_firstWrong 4 = .ok (.istore 7, 2) := o_54 (bg_dX7_firstWrong_0 4 54 rfl) (bg_dX7_firstWrong_0 5 7 rfl)
theorem dX7_firstWrong_6 : decode cX7_firstWrong 6 = .ok (.iload 7, 2) := o_21 (bg_dX7_firstWrong_0 6 21 rfl) (bg_dX7_firstWrong_0 7 7 rfl)
theorem dX7_firstWrong_8 : decode cX7_firstWrong 8 = .ok (.iload 5, 2) := o_21 (bg_dX7_firstWrong_0 8 21 rfl) (bg_dX7_firstWrong_0 9 5 rfl)
theorem dX7_firstWrong_10 : decode cX7_firstWrong 10 = .ok (.if_icmp .ge 140, 3) := o_162 (bg_dX7_firstWrong_0 10 162 rfl) (bg_dX7_firstWrong_0 11 0 rfl) (bg_dX7_firstWrong_0 12 140 rfl) (by decide +kernel)
theorem dX7_firstWrong_13 : decode cX7_firstWrong 13 = .ok (.aload_n 0, 1) := o_42 (bg_dX7_firstWrong_0 13 42 rfl)
theorem dX7_firstWrong_14 : decode cX7_firstWrong 14 = .ok (.getfield 21, 3) := o_180 (bg_dX7_firstWrong_0 14 180 rfl) (bg_dX7_firstWrong_0 15 0 rfl) (bg_dX7_firstWrong_0 16 21 rfl)
theorem dX7_firstWrong_17 : decode cX7_firstWrong 17 = .ok (.iload 4, 2) := o_21 (bg_dX7_firstWrong_0 17 21 rfl) (bg_dX7_firstWrong_0 18 4 rfl)
theorem dX7_firstWrong_19 : decode cX7_firstWrong 19 = .ok (.aaload, 1) := o_50 (bg_dX7_firstWrong_0 19 50 rfl)
theorem dX7_firstWrong_20 : decode cX7_firstWrong 20 = .ok (.iload 7, 2) := o_21 (bg_dX7_firstWrong_0 20 21 rfl) (bg_dX7_firstWrong_0 21 7 rfl)
theorem dX7_firstWrong_22 : decode cX7_firstWrong 22 = .ok (.laload, 1) := o_47 (bg_dX7_firstWrong_0 22 47 rfl)
theorem dX7_firstWrong_23 : decode cX7_firstWrong 23 = .ok (.lconst 0, 1) := o_9 (bg_dX7_firstWrong_0 23 9 rfl)
theorem bg_dX7_firstWrong_24 : bysAt cX7_firstWrong 24 [42, 180, 0, 66, 4, 100, 133, 184, 0, 62, 154, 0, 6, 21, 7, 172, 42, 180, 0, 21, 21, 4, 50, 21, 7] := bysAt_of (by decide +kernel)
theorem dX7_firstWrong_24 : decode cX7_firstWrong 24 = .ok (.aload_n 0, 1) := o_42 (bg_dX7_firstWrong_24 0 42 rfl)
theorem dX7_firstWrong_25 : decode cX7_firstWrong 25 = .ok (.getfield 66, 3) := o_180 (bg_dX7_firstWrong_24 1 180 rfl) (bg_dX7_firstWrong_24 2 0 rfl) (bg_dX7_firstWrong_24 3 66 rfl)
theorem dX7_firstWrong_28 : decode cX7_firstWrong 28 = .ok (.iconst 1, 1) := o_4 (bg_dX7_firstWrong_24 4 4 rfl)
theorem dX7_firstWrong_29 : decode cX7_firstWrong 29 = .ok (.isub, 1) := o_100 (bg_dX7_firstWrong_24 5 100 rfl)
theorem dX7_firstWrong_30 : decode cX7_firstWrong 30 = .ok (.i2l, 1) := o_133 (bg_dX7_firstWrong_24 6 133 rfl)
theorem dX7_firstWrong_31 : decode cX7_firstWrong 31 = .ok (.invokestatic 62, 3) := o_184 (bg_dX7_firstWrong_24 7 184 rfl) (bg_dX7_firstWrong_24 8 0 rfl) (bg_dX7_firstWrong_24 9 62 rfl)
theorem dX7_firstWrong_34 : decode cX7_firstWrong 34 = .ok (.ifCond .ne 6, 3) := o_154 (bg_dX7_firstWrong_24 10 154 rfl) (bg_dX7_firstWrong_24 11 0 rfl) (bg_dX7_firstWrong_24 12 6 rfl) (by decide +kernel)
theorem dX7_firstWrong_37 : decode cX7_firstWrong 37 = .ok (.iload 7, 2) := o_21 (bg_dX7_firstWrong_24 13 21 rfl) (bg_dX7_firstWrong_24 14 7 rfl)
theorem dX7_firstWrong_39 : decode cX7_firstWrong 39 = .ok (.ireturn, 1) := o_172 (bg_dX7_firstWrong_24 15 172 rfl)
theorem dX7_firstWrong_40 : decode cX7_firstWrong 40 = .ok (.aload_n 0, 1) := o_42 (bg_dX7_firstWrong_24 16 42 rfl)
theorem dX7_firstWrong_41 : decode cX7_firstWrong 41 = .ok (.getfield 21, 3) := o_180 (bg_dX7_firstWrong_24 17 180 rfl) (bg_dX7_firstWrong_24 18 0 rfl) (bg_dX7_firstWrong_24 19 21 rfl)
theorem dX7_firstWrong_44 : decode cX7_firstWrong 44 = .ok (.iload 4, 2) := o_21 (bg_dX7_firstWrong_24 20 21 rfl) (bg_dX7_firstWrong_24 21 4 rfl)
theorem dX7_firstWrong_46 : decode cX7_firstWrong 46 = .ok (.aaload, 1) := o_50 (bg_dX7_firstWrong_24 22 50 rfl)
theorem dX7_firstWrong_47 : decode cX7_firstWrong 47 = .ok (.iload 7, 2) := o_21 (bg_dX7_firstWrong_24 23 21 rfl) (bg_dX7_firstWrong_24 24 7 rfl)
theorem bg_dX7_firstWrong_49 : bysAt cX7_firstWrong 49 [47, 136, 54, 8, 42, 180, 0, 39, 21, 8, 50, 3, 46, 21, 6, 159, 0, 17, 42, 180, 0, 39, 21, 8] := bysAt_of (by decide +kernel)
theorem dX7_firstWrong_49 : decode cX7_firstWrong 49 = .ok (.laload, 1) := o_47 (bg_dX7_firstWrong_49 0 47 rfl)
theorem dX7_firstWrong_50 : decode cX7_firstWrong 50 = .ok (.l2i, 1) := o_136 (bg_dX7_firstWrong_49 1 136 rfl)
theorem dX7_firstWrong_51 : decode cX7_firstWrong 51 = .ok (.istore 8, 2) := o_54 (bg_dX7_firstWrong_49 2 54 rfl) (bg_dX7_firstWrong_49 3 8 rfl)
theorem dX7_firstWrong_53 : decode cX7_firstWrong 53 = .ok (.aload_n 0, 1) := o_42 (bg_dX7_firstWrong_49 4 42 rfl)
theorem dX7_firstWrong_54 : decode cX7_firstWrong 54 = .ok (.getfield 39, 3) := o_180 (bg_dX7_firstWrong_49 5 180 rfl) (bg_dX7_firstWrong_49 6 0 rfl) (bg_dX7_firstWrong_49 7 39 rfl)
theorem dX7_firstWrong_57 : decode cX7_firstWrong 57 = .ok (.iload 8, 2) := o_21 (bg_dX7_firstWrong_49 8 21 rfl) (bg_dX7_firstWrong_49 9 8 rfl)
theorem dX7_firstWrong_59 : decode cX7_firstWrong 59 = .ok (.aaload, 1) := o_50 (bg_dX7_firstWrong_49 10 50 rfl)
theorem dX7_firstWrong_60 : decode cX7_firstWrong 60 = .ok (.iconst 0, 1) := o_3 (bg_dX7_firstWrong_49 11 3 rfl)
theorem dX7_firstWrong_61 : decode cX7_firstWrong 61 = .ok (.iaload, 1) := o_46 (bg_dX7_firstWrong_49 12 46 rfl)
theorem dX7_firstWrong_62 : decode cX7_firstWrong 62 = .ok (.iload 6, 2) := o_21 (bg_dX7_firstWrong_49 13 21 rfl) (bg_dX7_firstWrong_49 14 6 rfl)
theorem dX7_firstWrong_64 : decode cX7_firstWrong 64 = .ok (.if_icmp .eq 17, 3) := o_159 (bg_dX7_firstWrong_49 15 159 rfl) (bg_dX7_firstWrong_49 16 0 rfl) (bg_dX7_firstWrong_49 17 17 rfl) (by decide +kernel)
theorem dX7_firstWrong_67 : decode cX7_firstWrong 67 = .ok (.aload_n 0, 1) := o_42 (bg_dX7_firstWrong_49 18 42 rfl)
theorem dX7_firstWrong_68 : decode cX7_firstWrong 68 = .ok (.getfield 39, 3) := o_180 (bg_dX7_firstWrong_49 19 180 rfl) (bg_dX7_firstWrong_49 20 0 rfl) (bg_dX7_firstWrong_49 21 39 rfl)
theorem dX7_firstWrong_71 : decode cX7_firstWrong 71 = .ok (.iload 8, 2) := o_21 (bg_dX7_firstWrong_49 22 21 rfl) (bg_dX7_firstWrong_49 23 8 rfl)
theorem bg_dX7_firstWrong_73 : bysAt cX7_firstWrong 73 [50, 4, 46, 21, 6, 160, 0, 7, 4, 167, 0, 4, 3, 54, 9, 21, 9, 153, 0, 14, 42, 27, 28] := bysAt_of (by decide +kernel)
theorem dX7_firstWrong_73 : decode cX7_firstWrong 73 = .ok (.aaload, 1) := o_50 (bg_dX7_firstWrong_73 0 50 rfl)
theorem dX7_firstWrong_74 : decode cX7_firstWrong 74 = .ok (.iconst 1, 1) := o_4 (bg_dX7_firstWrong_73 1 4 rfl)
theorem dX7_firstWrong_75 : decode cX7_firstWrong 75 = .ok (.iaload, 1) := o_46 (bg_dX7_firstWrong_73 2 46 rfl)
theorem dX7_firstWrong_76 : decode cX7_firstWrong 76 = .ok (.iload 6, 2) := o_21 (bg_dX7_firstWrong_73 3 21 rfl) (bg_dX7_firstWrong_73 4 6 rfl)
theorem dX7_firstWrong_78 : decode cX7_firstWrong 78 = .ok (.if_icmp .ne 7, 3) := o_160 (bg_dX7_firstWrong_73 5 160 rfl) (bg_dX7_firstWrong_73 6 0 rfl) (bg_dX7_firstWrong_73 7 7 rfl) (by decide +kernel)
theorem dX7_firstWrong_81 : decode cX7_firstWrong 81 = .ok (.iconst 1, 1) := o_4 (bg_dX7_firstWrong_73 8 4 rfl)
theorem dX7_firstWrong_82 : decode cX7_firstWrong 82 = .ok (.goto 4, 3) := o_167 (bg_dX7_firstWrong_73 9 167 rfl) (bg_dX7_firstWrong_73 10 0 rfl) (bg_dX7_firstWrong_73 11 4 rfl) (by decide +kernel)
theorem dX7_firstWrong_85 : decode cX7_firstWrong 85 = .ok (.iconst 0, 1) := o_3 (bg_dX7_firstWrong_73 12 3 rfl)
theorem dX7_firstWrong_86 : decode cX7_firstWrong 86 = .ok (.istore 9, 2) := o_54 (bg_dX7_firstWrong_73 13 54 rfl) (bg_dX7_firstWrong_73 14 9 rfl)
theorem dX7_firstWrong_88 : decode cX7_firstWrong 88 = .ok (.iload 9, 2) := o_21 (bg_dX7_firstWrong_73 15 21 rfl) (bg_dX7_firstWrong_73 16 9 rfl)
theorem dX7_firstWrong_90 : decode cX7_firstWrong 90 = .ok (.ifCond .eq 14, 3) := o_153 (bg_dX7_firstWrong_73 17 153 rfl) (bg_dX7_firstWrong_73 18 0 rfl) (bg_dX7_firstWrong_73 19 14 rfl) (by decide +kernel)
theorem dX7_firstWrong_93 : decode cX7_firstWrong 93 = .ok (.aload_n 0, 1) := o_42 (bg_dX7_firstWrong_73 20 42 rfl)
theorem dX7_firstWrong_94 : decode cX7_firstWrong 94 = .ok (.iload_n 1, 1) := o_27 (bg_dX7_firstWrong_73 21 27 rfl)
theorem dX7_firstWrong_95 : decode cX7_firstWrong 95 = .ok (.iload_n 2, 1) := o_28 (bg_dX7_firstWrong_73 22 28 rfl)
theorem bg_dX7_firstWrong_96 : bysAt cX7_firstWrong 96 [21, 8, 182, 1, 25, 154, 0, 6, 21, 7, 172, 42, 180, 0, 39, 21, 8, 50, 3, 46, 21, 6, 160, 0, 15, 42] := bysAt_of (by decide +kernel)
theorem dX7_firstWrong_96 : decode cX7_firstWrong 96 = .ok (.iload 8, 2) := o_21 (bg_dX7_firstWrong_96 0 21 rfl) (bg_dX7_firstWrong_96 1 8 rfl)
theorem dX7_firstWrong_98 : decode cX7_firstWrong 98 = .ok (.invokevirtual 281, 3) := o_182 (bg_dX7_firstWrong_96 2 182 rfl) (bg_dX7_firstWrong_96 3 1 rfl) (bg_dX7_firstWrong_96 4 25 rfl)
theorem dX7_firstWrong_101 : decode cX7_firstWrong 101 = .ok (.ifCond .ne 6, 3) := o_154 (bg_dX7_firstWrong_96 5 154 rfl) (bg_dX7_firstWrong_96 6 0 rfl) (bg_dX7_firstWrong_96 7 6 rfl) (by decide +kernel)
theorem dX7_firstWrong_104 : decode cX7_firstWrong 104 = .ok (.iload 7, 2) := o_21 (bg_dX7_firstWrong_96 8 21 rfl) (bg_dX7_firstWrong_96 9 7 rfl)
theorem dX7_firstWrong_106 : decode cX7_firstWrong 106 = .ok (.ireturn, 1) := o_172 (bg_dX7_firstWrong_96 10 172 rfl)
theorem dX7_firstWrong_107 : decode cX7_firstWrong 107 = .ok (.aload_n 0, 1) := o_42 (bg_dX7_firstWrong_96 11 42 rfl)
theorem dX7_firstWrong_108 : decode cX7_firstWrong 108 = .ok (.getfield 39, 3) := o_180 (bg_dX7_firstWrong_96 12 180 rfl) (bg_dX7_firstWrong_96 13 0 rfl) (bg_dX7_firstWrong_96 14 39 rfl)
theorem dX7_firstWrong_111 : decode cX7_firstWrong 111 = .ok (.iload 8, 2) := o_21 (bg_dX7_firstWrong_96 15 21 rfl) (bg_dX7_firstWrong_96 16 8 rfl)
theorem dX7_firstWrong_113 : decode cX7_firstWrong 113 = .ok (.aaload, 1) := o_50 (bg_dX7_firstWrong_96 17 50 rfl)
theorem dX7_firstWrong_114 : decode cX7_firstWrong 114 = .ok (.iconst 0, 1) := o_3 (bg_dX7_firstWrong_96 18 3 rfl)
theorem dX7_firstWrong_115 : decode cX7_firstWrong 115 = .ok (.iaload, 1) := o_46 (bg_dX7_firstWrong_96 19 46 rfl)
theorem dX7_firstWrong_116 : decode cX7_firstWrong 116 = .ok (.iload 6, 2) := o_21 (bg_dX7_firstWrong_96 20 21 rfl) (bg_dX7_firstWrong_96 21 6 rfl)
theorem dX7_firstWrong_118 : decode cX7_firstWrong 118 = .ok (.if_icmp .ne 15, 3) := o_160 (bg_dX7_firstWrong_96 22 160 rfl) (bg_dX7_firstWrong_96 23 0 rfl) (bg_dX7_firstWrong_96 24 15 rfl) (by decide +kernel)
theorem dX7_firstWrong_121 : decode cX7_firstWrong 121 = .ok (.aload_n 0, 1) := o_42 (bg_dX7_firstWrong_96 25 42 rfl)
theorem bg_dX7_firstWrong_122 : bysAt cX7_firstWrong 122 [180, 0, 39, 21, 8, 50, 4, 46, 167, 0, 12, 42, 180, 0, 39, 21, 8, 50, 3, 46, 54, 6, 132, 7, 1, 167, 255, 115] := bysAt_of (by decide +kernel)
theorem dX7_firstWrong_122 : decode cX7_firstWrong 122 = .ok (.getfield 39, 3) := o_180 (bg_dX7_firstWrong_122 0 180 rfl) (bg_dX7_firstWrong_122 1 0 rfl) (bg_dX7_firstWrong_122 2 39 rfl)
theorem dX7_firstWrong_125 : decode cX7_firstWrong 125 = .ok (.iload 8, 2) := o_21 (bg_dX7_firstWrong_122 3 21 rfl) (bg_dX7_firstWrong_122 4 8 rfl)
theorem dX7_firstWrong_127 : decode cX7_firstWrong 127 = .ok (.aaload, 1) := o_50 (bg_dX7_firstWrong_122 5 50 rfl)
theorem dX7_firstWrong_128 : decode cX7_firstWrong 128 = .ok (.iconst 1, 1) := o_4 (bg_dX7_firstWrong_122 6 4 rfl)
theorem dX7_firstWrong_129 : decode cX7_firstWrong 129 = .ok (.iaload, 1) := o_46 (bg_dX7_firstWrong_122 7 46 rfl)
theorem dX7_firstWrong_130 : decode cX7_firstWrong 130 = .ok (.goto 12, 3) := o_167 (bg_dX7_firstWrong_122 8 167 rfl) (bg_dX7_firstWrong_122 9 0 rfl) (bg_dX7_firstWrong_122 10 12 rfl) (by decide +kernel)
theorem dX7_firstWrong_133 : decode cX7_firstWrong 133 = .ok (.aload_n 0, 1) := o_42 (bg_dX7_firstWrong_122 11 42 rfl)
theorem dX7_firstWrong_134 : decode cX7_firstWrong 134 = .ok (.getfield 39, 3) := o_180 (bg_dX7_firstWrong_122 12 180 rfl) (bg_dX7_firstWrong_122 13 0 rfl) (bg_dX7_firstWrong_122 14 39 rfl)
theorem dX7_firstWrong_137 : decode cX7_firstWrong 137 = .ok (.iload 8, 2) := o_21 (bg_dX7_firstWrong_122 15 21 rfl) (bg_dX7_firstWrong_122 16 8 rfl)
theorem dX7_firstWrong_139 : decode cX7_firstWrong 139 = .ok (.aaload, 1) := o_50 (bg_dX7_firstWrong_122 17 50 rfl)
theorem dX7_firstWrong_140 : decode cX7_firstWrong 140 = .ok (.iconst 0, 1) := o_3 (bg_dX7_firstWrong_122 18 3 rfl)
theorem dX7_firstWrong_141 : decode cX7_firstWrong 141 = .ok (.iaload, 1) := o_46 (bg_dX7_firstWrong_122 19 46 rfl)
theorem dX7_firstWrong_142 : decode cX7_firstWrong 142 = .ok (.istore 6, 2) := o_54 (bg_dX7_firstWrong_122 20 54 rfl) (bg_dX7_firstWrong_122 21 6 rfl)
theorem dX7_firstWrong_147 : decode cX7_firstWrong 147 = .ok (.goto (-141), 3) := o_167 (bg_dX7_firstWrong_122 25 167 rfl) (bg_dX7_firstWrong_122 26 255 rfl) (bg_dX7_firstWrong_122 27 115 rfl) (by decide +kernel)
theorem bg_dX7_firstWrong_150 : bysAt cX7_firstWrong 150 [42, 21, 6, 181, 1, 54, 2, 172] := bysAt_of (by decide +kernel)
theorem dX7_firstWrong_150 : decode cX7_firstWrong 150 = .ok (.aload_n 0, 1) := o_42 (bg_dX7_firstWrong_150 0 42 rfl)
theorem dX7_firstWrong_151 : decode cX7_firstWrong 151 = .ok (.iload 6, 2) := o_21 (bg_dX7_firstWrong_150 1 21 rfl) (bg_dX7_firstWrong_150 2 6 rfl)
theorem dX7_firstWrong_153 : decode cX7_firstWrong 153 = .ok (.putfield 310, 3) := o_181 (bg_dX7_firstWrong_150 3 181 rfl) (bg_dX7_firstWrong_150 4 1 rfl) (bg_dX7_firstWrong_150 5 54 rfl)
theorem dX7_firstWrong_156 : decode cX7_firstWrong 156 = .ok (.iconst (-1), 1) := o_2 (bg_dX7_firstWrong_150 6 2 rfl)
theorem dX7_firstWrong_157 : decode cX7_firstWrong 157 = .ok (.ireturn, 1) := o_172 (bg_dX7_firstWrong_150 7 172 rfl)
theorem bg_dX7_frost_0 : bysAt cX7_frost 0 [42, 27, 28, 182, 1, 4, 153, 0, 35, 29, 184, 0, 113, 153, 0, 28, 21, 4, 184, 0, 113, 153, 0, 20, 21, 5, 133, 9] := bysAt_of (by decide +kernel)
theorem dX7_frost_0 : decode cX7_frost 0 = .ok (.aload_n 0, 1) := o_42 (bg_dX7_frost_0 0 42 rfl)
theorem dX7_frost_1 : decode cX7_frost 1 = .ok (.iload_n 1, 1) := o_27 (bg_dX7_frost_0 1 27 rfl)
theorem dX7_frost_2 : decode cX7_frost 2 = .ok (.iload_n 2, 1) := o_28 (bg_dX7_frost_0 2 28 rfl)
theorem dX7_frost_3 : decode cX7_frost 3 = .ok (.invokevirtual 260, 3) := o_182 (bg_dX7_frost_0 3 182 rfl) (bg_dX7_frost_0 4 1 rfl) (bg_dX7_frost_0 5 4 rfl)
theorem dX7_frost_6 : decode cX7_frost 6 = .ok (.ifCond .eq 35, 3) := o_153 (bg_dX7_frost_0 6 153 rfl) (bg_dX7_frost_0 7 0 rfl) (bg_dX7_frost_0 8 35 rfl) (by decide +kernel)
theorem dX7_frost_9 : decode cX7_frost 9 = .ok (.iload_n 3, 1) := o_29 (bg_dX7_frost_0 9 29 rfl)
theorem dX7_frost_10 : decode cX7_frost 10 = .ok (.invokestatic 113, 3) := o_184 (bg_dX7_frost_0 10 184 rfl) (bg_dX7_frost_0 11 0 rfl) (bg_dX7_frost_0 12 113 rfl)
theorem dX7_frost_13 : decode cX7_frost 13 = .ok (.ifCond .eq 28, 3) := o_153 (bg_dX7_frost_0 13 153 rfl) (bg_dX7_frost_0 14 0 rfl) (bg_dX7_frost_0 15 28 rfl) (by decide +kernel)
theorem dX7_frost_16 : decode cX7_frost 16 = .ok (.iload 4, 2) := o_21 (bg_dX7_frost_0 16 21 rfl) (bg_dX7_frost_0 17 4 rfl)
theorem dX7_frost_18 : decode cX7_frost 18 = .ok (.invokestatic 113, 3) := o_184 (bg_dX7_frost_0 18 184 rfl) (bg_dX7_frost_0 19 0 rfl) (bg_dX7_frost_0 20 113 rfl)
theorem dX7_frost_21 : decode cX7_frost 21 = .ok (.ifCond .eq 20, 3) := o_153 (bg_dX7_frost_0 21 153 rfl) (bg_dX7_frost_0 22 0 rfl) (bg_dX7_frost_0 23 20 rfl) (by decide +kernel)
theorem dX7_frost_24 : decode cX7_frost 24 = .ok (.iload 5, 2) := o_21 (bg_dX7_frost_0 24 21 rfl) (bg_dX7_frost_0 25 5 rfl)
theorem dX7_frost_26 : decode cX7_frost 26 = .ok (.i2l, 1) := o_133 (bg_dX7_frost_0 26 133 rfl)
theorem dX7_frost_27 : decode cX7_frost 27 = .ok (.lconst 0, 1) := o_9 (bg_dX7_frost_0 27 9 rfl)
theorem bg_dX7_frost_28 : bysAt cX7_frost 28 [20, 0, 249, 184, 0, 62, 153, 0, 7, 4, 167, 0, 4, 3, 54, 8, 21, 8, 153, 0, 29, 21, 6, 133, 9, 20, 0, 162, 184, 0, 62] := bysAt_of (by decide +kernel)
theorem dX7_frost_28 : decode cX7_frost 28 = .ok (.ldc2_w 249, 3) := o_20 (bg_dX7_frost_28 0 20 rfl) (bg_dX7_frost_28 1 0 rfl) (bg_dX7_frost_28 2 249 rfl)
theorem dX7_frost_31 : decode cX7_frost 31 = .ok (.invokestatic 62, 3) := o_184 (bg_dX7_frost_28 3 184 rfl) (bg_dX7_frost_28 4 0 rfl) (bg_dX7_frost_28 5 62 rfl)
theorem dX7_frost_34 : decode cX7_frost 34 = .ok (.ifCond .eq 7, 3) := o_153 (bg_dX7_frost_28 6 153 rfl) (bg_dX7_frost_28 7 0 rfl) (bg_dX7_frost_28 8 7 rfl) (by decide +kernel)
theorem dX7_frost_37 : decode cX7_frost 37 = .ok (.iconst 1, 1) := o_4 (bg_dX7_frost_28 9 4 rfl)
theorem dX7_frost_38 : decode cX7_frost 38 = .ok (.goto 4, 3) := o_167 (bg_dX7_frost_28 10 167 rfl) (bg_dX7_frost_28 11 0 rfl) (bg_dX7_frost_28 12 4 rfl) (by decide +kernel)
theorem dX7_frost_41 : decode cX7_frost 41 = .ok (.iconst 0, 1) := o_3 (bg_dX7_frost_28 13 3 rfl)
theorem dX7_frost_42 : decode cX7_frost 42 = .ok (.istore 8, 2) := o_54 (bg_dX7_frost_28 14 54 rfl) (bg_dX7_frost_28 15 8 rfl)
theorem dX7_frost_44 : decode cX7_frost 44 = .ok (.iload 8, 2) := o_21 (bg_dX7_frost_28 16 21 rfl) (bg_dX7_frost_28 17 8 rfl)
theorem dX7_frost_46 : decode cX7_frost 46 = .ok (.ifCond .eq 29, 3) := o_153 (bg_dX7_frost_28 18 153 rfl) (bg_dX7_frost_28 19 0 rfl) (bg_dX7_frost_28 20 29 rfl) (by decide +kernel)
theorem dX7_frost_49 : decode cX7_frost 49 = .ok (.iload 6, 2) := o_21 (bg_dX7_frost_28 21 21 rfl) (bg_dX7_frost_28 22 6 rfl)
theorem dX7_frost_51 : decode cX7_frost 51 = .ok (.i2l, 1) := o_133 (bg_dX7_frost_28 23 133 rfl)
theorem dX7_frost_52 : decode cX7_frost 52 = .ok (.lconst 0, 1) := o_9 (bg_dX7_frost_28 24 9 rfl)
theorem dX7_frost_53 : decode cX7_frost 53 = .ok (.ldc2_w 162, 3) := o_20 (bg_dX7_frost_28 25 20 rfl) (bg_dX7_frost_28 26 0 rfl) (bg_dX7_frost_28 27 162 rfl)
theorem dX7_frost_56 : decode cX7_frost 56 = .ok (.invokestatic 62, 3) := o_184 (bg_dX7_frost_28 28 184 rfl) (bg_dX7_frost_28 29 0 rfl) (bg_dX7_frost_28 30 62 rfl)
theorem bg_dX7_frost_59 : bysAt cX7_frost 59 [153, 0, 16, 21, 7, 133, 9, 20, 0, 129, 184, 0, 62, 154, 0, 11, 42, 16, 254, 182, 0, 89, 133, 173, 42, 180, 0, 51] := bysAt_of (by decide +kernel)
theorem dX7_frost_59 : decode cX7_frost 59 = .ok (.ifCond .eq 16, 3) := o_153 (bg_dX7_frost_59 0 153 rfl) (bg_dX7_frost_59 1 0 rfl) (bg_dX7_frost_59 2 16 rfl) (by decide +kernel)
theorem dX7_frost_62 : decode cX7_frost 62 = .ok (.iload 7, 2) := o_21 (bg_dX7_frost_59 3 21 rfl) (bg_dX7_frost_59 4 7 rfl)
theorem dX7_frost_64 : decode cX7_frost 64 = .ok (.i2l, 1) := o_133 (bg_dX7_frost_59 5 133 rfl)
theorem dX7_frost_65 : decode cX7_frost 65 = .ok (.lconst 0, 1) := o_9 (bg_dX7_frost_59 6 9 rfl)
theorem dX7_frost_66 : decode cX7_frost 66 = .ok (.ldc2_w 129, 3) := o_20 (bg_dX7_frost_59 7 20 rfl) (bg_dX7_frost_59 8 0 rfl) (bg_dX7_frost_59 9 129 rfl)
theorem dX7_frost_69 : decode cX7_frost 69 = .ok (.invokestatic 62, 3) := o_184 (bg_dX7_frost_59 10 184 rfl) (bg_dX7_frost_59 11 0 rfl) (bg_dX7_frost_59 12 62 rfl)
theorem dX7_frost_72 : decode cX7_frost 72 = .ok (.ifCond .ne 11, 3) := o_154 (bg_dX7_frost_59 13 154 rfl) (bg_dX7_frost_59 14 0 rfl) (bg_dX7_frost_59 15 11 rfl) (by decide +kernel)
theorem dX7_frost_75 : decode cX7_frost 75 = .ok (.aload_n 0, 1) := o_42 (bg_dX7_frost_59 16 42 rfl)
theorem dX7_frost_76 : decode cX7_frost 76 = .ok (.bipush (-2), 2) := o_16 (bg_dX7_frost_59 17 16 rfl) (bg_dX7_frost_59 18 254 rfl) (by decide +kernel)
theorem dX7_frost_78 : decode cX7_frost 78 = .ok (.invokevirtual 89, 3) := o_182 (bg_dX7_frost_59 19 182 rfl) (bg_dX7_frost_59 20 0 rfl) (bg_dX7_frost_59 21 89 rfl)
theorem dX7_frost_81 : decode cX7_frost 81 = .ok (.i2l, 1) := o_133 (bg_dX7_frost_59 22 133 rfl)
theorem dX7_frost_82 : decode cX7_frost 82 = .ok (.lreturn, 1) := o_173 (bg_dX7_frost_59 23 173 rfl)
theorem dX7_frost_83 : decode cX7_frost 83 = .ok (.aload_n 0, 1) := o_42 (bg_dX7_frost_59 24 42 rfl)
theorem dX7_frost_84 : decode cX7_frost 84 = .ok (.getfield 51, 3) := o_180 (bg_dX7_frost_59 25 180 rfl) (bg_dX7_frost_59 26 0 rfl) (bg_dX7_frost_59 27 51 rfl)
theorem bg_dX7_frost_87 : bysAt cX7_frost 87 [5, 46, 54, 9, 42, 180, 0, 51, 5, 4, 79, 42, 27, 28, 29, 21, 4, 4] := bysAt_of (by decide +kernel)
theorem dX7_frost_87 : decode cX7_frost 87 = .ok (.iconst 2, 1) := o_5 (bg_dX7_frost_87 0 5 rfl)
theorem dX7_frost_88 : decode cX7_frost 88 = .ok (.iaload, 1) := o_46 (bg_dX7_frost_87 1 46 rfl)
theorem dX7_frost_89 : decode cX7_frost 89 = .ok (.istore 9, 2) := o_54 (bg_dX7_frost_87 2 54 rfl) (bg_dX7_frost_87 3 9 rfl)
theorem dX7_frost_91 : decode cX7_frost 91 = .ok (.aload_n 0, 1) := o_42 (bg_dX7_frost_87 4 42 rfl)
theorem dX7_frost_92 : decode cX7_frost 92 = .ok (.getfield 51, 3) := o_180 (bg_dX7_frost_87 5 180 rfl) (bg_dX7_frost_87 6 0 rfl) (bg_dX7_frost_87 7 51 rfl)
theorem dX7_frost_95 : decode cX7_frost 95 = .ok (.iconst 2, 1) := o_5 (bg_dX7_frost_87 8 5 rfl)
theorem dX7_frost_96 : decode cX7_frost 96 = .ok (.iconst 1, 1) := o_4 (bg_dX7_frost_87 9 4 rfl)
theorem dX7_frost_97 : decode cX7_frost 97 = .ok (.iastore, 1) := o_79 (bg_dX7_frost_87 10 79 rfl)
theorem dX7_frost_98 : decode cX7_frost 98 = .ok (.aload_n 0, 1) := o_42 (bg_dX7_frost_87 11 42 rfl)
theorem dX7_frost_99 : decode cX7_frost 99 = .ok (.iload_n 1, 1) := o_27 (bg_dX7_frost_87 12 27 rfl)
theorem dX7_frost_100 : decode cX7_frost 100 = .ok (.iload_n 2, 1) := o_28 (bg_dX7_frost_87 13 28 rfl)
theorem dX7_frost_101 : decode cX7_frost 101 = .ok (.iload_n 3, 1) := o_29 (bg_dX7_frost_87 14 29 rfl)
theorem dX7_frost_102 : decode cX7_frost 102 = .ok (.iload 4, 2) := o_21 (bg_dX7_frost_87 15 21 rfl) (bg_dX7_frost_87 16 4 rfl)
theorem dX7_frost_104 : decode cX7_frost 104 = .ok (.iconst 1, 1) := o_4 (bg_dX7_frost_87 17 4 rfl)
theorem bg_dX7_frost_105 : bysAt cX7_frost 105 [182, 1, 51, 54, 10, 42, 180, 0, 51, 5, 3, 79, 42, 27, 28, 29, 21, 4, 4, 182, 1, 51] := bysAt_of (by decide +kernel)
theorem dX7_frost_105 : decode cX7_frost 105 = .ok (.invokevirtual 307, 3) := o_182 (bg_dX7_frost_105 0 182 rfl) (bg_dX7_frost_105 1 1 rfl) (bg_dX7_frost_105 2 51 rfl)
theorem dX7_frost_108 : decode cX7_frost 108 = .ok (.istore 10, 2) := o_54 (bg_dX7_frost_105 3 54 rfl) (bg_dX7_frost_105 4 10 rfl)
theorem dX7_frost_110 : decode cX7_frost 110 = .ok (.aload_n 0, 1) := o_42 (bg_dX7_frost_105 5 42 rfl)
theorem dX7_frost_111 : decode cX7_frost 111 = .ok (.getfield 51, 3) := o_180 (bg_dX7_frost_105 6 180 rfl) (bg_dX7_frost_105 7 0 rfl) (bg_dX7_frost_105 8 51 rfl)
theorem dX7_frost_114 : decode cX7_frost 114 = .ok (.iconst 2, 1) := o_5 (bg_dX7_frost_105 9 5 rfl)
theorem dX7_frost_115 : decode cX7_frost 115 = .ok (.iconst 0, 1) := o_3 (bg_dX7_frost_105 10 3 rfl)
theorem dX7_frost_116 : decode cX7_frost 116 = .ok (.iastore, 1) := o_79 (bg_dX7_frost_105 11 79 rfl)
theorem dX7_frost_117 : decode cX7_frost 117 = .ok (.aload_n 0, 1) := o_42 (bg_dX7_frost_105 12 42 rfl)
theorem dX7_frost_118 : decode cX7_frost 118 = .ok (.iload_n 1, 1) := o_27 (bg_dX7_frost_105 13 27 rfl)
theorem dX7_frost_119 : decode cX7_frost 119 = .ok (.iload_n 2, 1) := o_28 (bg_dX7_frost_105 14 28 rfl)
theorem dX7_frost_120 : decode cX7_frost 120 = .ok (.iload_n 3, 1) := o_29 (bg_dX7_frost_105 15 29 rfl)
theorem dX7_frost_121 : decode cX7_frost 121 = .ok (.iload 4, 2) := o_21 (bg_dX7_frost_105 16 21 rfl) (bg_dX7_frost_105 17 4 rfl)
theorem dX7_frost_123 : decode cX7_frost 123 = .ok (.iconst 1, 1) := o_4 (bg_dX7_frost_105 18 4 rfl)
theorem dX7_frost_124 : decode cX7_frost 124 = .ok (.invokevirtual 307, 3) := o_182 (bg_dX7_frost_105 19 182 rfl) (bg_dX7_frost_105 20 1 rfl) (bg_dX7_frost_105 21 51 rfl)
theorem bg_dX7_frost_127 : bysAt cX7_frost 127 [54, 11, 42, 180, 0, 51, 5, 21, 9, 79, 21, 11, 2, 160, 0, 11, 42, 16, 251, 182, 0, 89, 133, 173] := bysAt_of (by decide +kernel)
theorem dX7_frost_127 : decode cX7_frost 127 = .ok (.istore 11, 2) := o_54 (bg_dX7_frost_127 0 54 rfl) (bg_dX7_frost_127 1 11 rfl)
theorem dX7_frost_129 : decode cX7_frost 129 = .ok (.aload_n 0, 1) := o_42 (bg_dX7_frost_127 2 42 rfl)
theorem dX7_frost_130 : decode cX7_frost 130 = .ok (.getfield 51, 3) := o_180 (bg_dX7_frost_127 3 180 rfl) (bg_dX7_frost_127 4 0 rfl) (bg_dX7_frost_127 5 51 rfl)
theorem dX7_frost_133 : decode cX7_frost 133 = .ok (.iconst 2, 1) := o_5 (bg_dX7_frost_127 6 5 rfl)
theorem dX7_frost_134 : decode cX7_frost 134 = .ok (.iload 9, 2) := o_21 (bg_dX7_frost_127 7 21 rfl) (bg_dX7_frost_127 8 9 rfl)
theorem dX7_frost_136 : decode cX7_frost 136 = .ok (.iastore, 1) := o_79 (bg_dX7_frost_127 9 79 rfl)
theorem dX7_frost_137 : decode cX7_frost 137 = .ok (.iload 11, 2) := o_21 (bg_dX7_frost_127 10 21 rfl) (bg_dX7_frost_127 11 11 rfl)
theorem dX7_frost_139 : decode cX7_frost 139 = .ok (.iconst (-1), 1) := o_2 (bg_dX7_frost_127 12 2 rfl)
theorem dX7_frost_140 : decode cX7_frost 140 = .ok (.if_icmp .ne 11, 3) := o_160 (bg_dX7_frost_127 13 160 rfl) (bg_dX7_frost_127 14 0 rfl) (bg_dX7_frost_127 15 11 rfl) (by decide +kernel)
theorem dX7_frost_143 : decode cX7_frost 143 = .ok (.aload_n 0, 1) := o_42 (bg_dX7_frost_127 16 42 rfl)
theorem dX7_frost_144 : decode cX7_frost 144 = .ok (.bipush (-5), 2) := o_16 (bg_dX7_frost_127 17 16 rfl) (bg_dX7_frost_127 18 251 rfl) (by decide +kernel)
theorem dX7_frost_146 : decode cX7_frost 146 = .ok (.invokevirtual 89, 3) := o_182 (bg_dX7_frost_127 19 182 rfl) (bg_dX7_frost_127 20 0 rfl) (bg_dX7_frost_127 21 89 rfl)
theorem dX7_frost_149 : decode cX7_frost 149 = .ok (.i2l, 1) := o_133 (bg_dX7_frost_127 22 133 rfl)
theorem dX7_frost_150 : decode cX7_frost 150 = .ok (.lreturn, 1) := o_173 (bg_dX7_frost_127 23 173 rfl)
theorem bg_dX7_frost_151 : bysAt cX7_frost 151 [21, 11, 133, 55, 12, 10, 55, 14, 3, 54, 16, 21, 16, 21, 5, 162, 0, 75, 20, 0, 162, 22, 14, 105, 21, 7] := bysAt_of (by decide +kernel)
theorem dX7_frost_151 : decode cX7_frost 151 = .ok (.iload 11, 2) := o_21 (bg_dX7_frost_151 0 21 rfl) (bg_dX7_frost_151 1 11 rfl)
theorem dX7_frost_153 : decode cX7_frost 153 = .ok (.i2l, 1) := o_133 (bg_dX7_frost_151 2 133 rfl)
theorem dX7_frost_154 : decode cX7_frost 154 = .ok (.lstore 12, 2) := o_55 (bg_dX7_frost_151 3 55 rfl) (bg_dX7_frost_151 4 12 rfl)
theorem dX7_frost_156 : decode cX7_frost 156 = .ok (.lconst 1, 1) := o_10 (bg_dX7_frost_151 5 10 rfl)
theorem dX7_frost_157 : decode cX7_frost 157 = .ok (.lstore 14, 2) := o_55 (bg_dX7_frost_151 6 55 rfl) (bg_dX7_frost_151 7 14 rfl)
theorem dX7_frost_159 : decode cX7_frost 159 = .ok (.iconst 0, 1) := o_3 (bg_dX7_frost_151 8 3 rfl)
theorem dX7_frost_160 : decode cX7_frost 160 = .ok (.istore 16, 2) := o_54 (bg_dX7_frost_151 9 54 rfl) (bg_dX7_frost_151 10 16 rfl)
theorem dX7_frost_162 : decode cX7_frost 162 = .ok (.iload 16, 2) := o_21 (bg_dX7_frost_151 11 21 rfl) (bg_dX7_frost_151 12 16 rfl)
theorem dX7_frost_164 : decode cX7_frost 164 = .ok (.iload 5, 2) := o_21 (bg_dX7_frost_151 13 21 rfl) (bg_dX7_frost_151 14 5 rfl)
theorem dX7_frost_166 : decode cX7_frost 166 = .ok (.if_icmp .ge 75, 3) := o_162 (bg_dX7_frost_151 15 162 rfl) (bg_dX7_frost_151 16 0 rfl) (bg_dX7_frost_151 17 75 rfl) (by decide +kernel)
theorem dX7_frost_169 : decode cX7_frost 169 = .ok (.ldc2_w 162, 3) := o_20 (bg_dX7_frost_151 18 20 rfl) (bg_dX7_frost_151 19 0 rfl) (bg_dX7_frost_151 20 162 rfl)
theorem dX7_frost_172 : decode cX7_frost 172 = .ok (.lload 14, 2) := o_22 (bg_dX7_frost_151 21 22 rfl) (bg_dX7_frost_151 22 14 rfl)
theorem dX7_frost_174 : decode cX7_frost 174 = .ok (.lmul, 1) := o_105 (bg_dX7_frost_151 23 105 rfl)
theorem dX7_frost_175 : decode cX7_frost 175 = .ok (.iload 7, 2) := o_21 (bg_dX7_frost_151 24 21 rfl) (bg_dX7_frost_151 25 7 rfl)
theorem bg_dX7_frost_177 : bysAt cX7_frost 177 [133, 105, 21, 6, 133, 22, 14, 105, 21, 10, 133, 105, 97, 16, 10, 21, 6, 100, 133] := bysAt_of (by decide +kernel)
theorem dX7_frost_177 : decode cX7_frost 177 = .ok (.i2l, 1) := o_133 (bg_dX7_frost_177 0 133 rfl)
theorem dX7_frost_178 : decode cX7_frost 178 = .ok (.lmul, 1) := o_105 (bg_dX7_frost_177 1 105 rfl)
theorem dX7_frost_179 : decode cX7_frost 179 = .ok (.iload 6, 2) := o_21 (bg_dX7_frost_177 2 21 rfl) (bg_dX7_frost_177 3 6 rfl)
theorem dX7_frost_181 : decode cX7_frost 181 = .ok (.i2l, 1) := o_133 (bg_dX7_frost_177 4 133 rfl)
theorem dX7_frost_182 : decode cX7_frost 182 = .ok (.lload 14, 2) := o_22 (bg_dX7_frost_177 5 22 rfl) (bg_dX7_frost_177 6 14 rfl)
theorem dX7_frost_184 : decode cX7_frost 184 = .ok (.lmul, 1) := o_105 (bg_dX7_frost_177 7 105 rfl)
theorem dX7_frost_185 : decode cX7_frost 185 = .ok (.iload 10, 2) := o_21 (bg_dX7_frost_177 8 21 rfl) (bg_dX7_frost_177 9 10 rfl)
theorem dX7_frost_187 : decode cX7_frost 187 = .ok (.i2l, 1) := o_133 (bg_dX7_frost_177 10 133 rfl)
theorem dX7_frost_188 : decode cX7_frost 188 = .ok (.lmul, 1) := o_105 (bg_dX7_frost_177 11 105 rfl)
theorem dX7_frost_189 : decode cX7_frost 189 = .ok (.ladd, 1) := o_97 (bg_dX7_frost_177 12 97 rfl)
theorem dX7_frost_190 : decode cX7_frost 190 = .ok (.bipush 10, 2) := o_16 (bg_dX7_frost_177 13 16 rfl) (bg_dX7_frost_177 14 10 rfl) (by decide +kernel)
theorem dX7_frost_192 : decode cX7_frost 192 = .ok (.iload 6, 2) := o_21 (bg_dX7_frost_177 15 21 rfl) (bg_dX7_frost_177 16 6 rfl)
theorem dX7_frost_194 : decode cX7_frost 194 = .ok (.isub, 1) := o_100 (bg_dX7_frost_177 17 100 rfl)
theorem dX7_frost_195 : decode cX7_frost 195 = .ok (.i2l, 1) := o_133 (bg_dX7_frost_177 18 133 rfl)
theorem bg_dX7_frost_196 : bysAt cX7_frost 196 [22, 12, 105, 97, 55, 17, 22, 14, 20, 0, 162, 105, 55, 14, 22, 14, 21, 11, 133, 105, 22, 17, 148] := bysAt_of (by decide +kernel)
theorem dX7_frost_196 : decode cX7_frost 196 = .ok (.lload 12, 2) := o_22 (bg_dX7_frost_196 0 22 rfl) (bg_dX7_frost_196 1 12 rfl)
theorem dX7_frost_198 : decode cX7_frost 198 = .ok (.lmul, 1) := o_105 (bg_dX7_frost_196 2 105 rfl)
theorem dX7_frost_199 : decode cX7_frost 199 = .ok (.ladd, 1) := o_97 (bg_dX7_frost_196 3 97 rfl)
theorem dX7_frost_200 : decode cX7_frost 200 = .ok (.lstore 17, 2) := o_55 (bg_dX7_frost_196 4 55 rfl) (bg_dX7_frost_196 5 17 rfl)
theorem dX7_frost_202 : decode cX7_frost 202 = .ok (.lload 14, 2) := o_22 (bg_dX7_frost_196 6 22 rfl) (bg_dX7_frost_196 7 14 rfl)
theorem dX7_frost_204 : decode cX7_frost 204 = .ok (.ldc2_w 162, 3) := o_20 (bg_dX7_frost_196 8 20 rfl) (bg_dX7_frost_196 9 0 rfl) (bg_dX7_frost_196 10 162 rfl)
theorem dX7_frost_207 : decode cX7_frost 207 = .ok (.lmul, 1) := o_105 (bg_dX7_frost_196 11 105 rfl)
theorem dX7_frost_208 : decode cX7_frost 208 = .ok (.lstore 14, 2) := o_55 (bg_dX7_frost_196 12 55 rfl) (bg_dX7_frost_196 13 14 rfl)
theorem dX7_frost_210 : decode cX7_frost 210 = .ok (.lload 14, 2) := o_22 (bg_dX7_frost_196 14 22 rfl) (bg_dX7_frost_196 15 14 rfl)
theorem dX7_frost_212 : decode cX7_frost 212 = .ok (.iload 11, 2) := o_21 (bg_dX7_frost_196 16 21 rfl) (bg_dX7_frost_196 17 11 rfl)
theorem dX7_frost_214 : decode cX7_frost 214 = .ok (.i2l, 1) := o_133 (bg_dX7_frost_196 18 133 rfl)
theorem dX7_frost_215 : decode cX7_frost 215 = .ok (.lmul, 1) := o_105 (bg_dX7_frost_196 19 105 rfl)
theorem dX7_frost_216 : decode cX7_frost 216 = .ok (.lload 17, 2) := o_22 (bg_dX7_frost_196 20 22 rfl) (bg_dX7_frost_196 21 17 rfl)
theorem dX7_frost_218 : decode cX7_frost 218 = .ok (.lcmp, 1) := o_148 (bg_dX7_frost_196 22 148 rfl)
theorem bg_dX7_frost_219 : bysAt cX7_frost 219 [156, 0, 12, 22, 14, 21, 11, 133, 105, 167, 0, 5, 22, 17, 55, 12, 132, 16, 1, 167, 255, 180, 22, 12, 173] := bysAt_of (by decide +kernel)
theorem dX7_frost_219 : decode cX7_frost 219 = .ok (.ifCond .ge 12, 3) := o_156 (bg_dX7_frost_219 0 156 rfl) (bg_dX7_frost_219 1 0 rfl) (bg_dX7_frost_219 2 12 rfl) (by decide +kernel)
theorem dX7_frost_222 : decode cX7_frost 222 = .ok (.lload 14, 2) := o_22 (bg_dX7_frost_219 3 22 rfl) (bg_dX7_frost_219 4 14 rfl)
theorem dX7_frost_224 : decode cX7_frost 224 = .ok (.iload 11, 2) := o_21 (bg_dX7_frost_219 5 21 rfl) (bg_dX7_frost_219 6 11 rfl)
theorem dX7_frost_226 : decode cX7_frost 226 = .ok (.i2l, 1) := o_133 (bg_dX7_frost_219 7 133 rfl)
theorem dX7_frost_227 : decode cX7_frost 227 = .ok (.lmul, 1) := o_105 (bg_dX7_frost_219 8 105 rfl)
theorem dX7_frost_228 : decode cX7_frost 228 = .ok (.goto 5, 3) := o_167 (bg_dX7_frost_219 9 167 rfl) (bg_dX7_frost_219 10 0 rfl) (bg_dX7_frost_219 11 5 rfl) (by decide +kernel)
theorem dX7_frost_231 : decode cX7_frost 231 = .ok (.lload 17, 2) := o_22 (bg_dX7_frost_219 12 22 rfl) (bg_dX7_frost_219 13 17 rfl)
theorem dX7_frost_233 : decode cX7_frost 233 = .ok (.lstore 12, 2) := o_55 (bg_dX7_frost_219 14 55 rfl) (bg_dX7_frost_219 15 12 rfl)
theorem dX7_frost_238 : decode cX7_frost 238 = .ok (.goto (-76), 3) := o_167 (bg_dX7_frost_219 19 167 rfl) (bg_dX7_frost_219 20 255 rfl) (bg_dX7_frost_219 21 180 rfl) (by decide +kernel)
theorem dX7_frost_241 : decode cX7_frost 241 = .ok (.lload 12, 2) := o_22 (bg_dX7_frost_219 22 22 rfl) (bg_dX7_frost_219 23 12 rfl)
theorem dX7_frost_243 : decode cX7_frost 243 = .ok (.lreturn, 1) := o_173 (bg_dX7_frost_219 24 173 rfl)
theorem bg_dX7_hang_0 : bysAt cX7_hang 0 [42, 27, 28, 182, 1, 4, 153, 0, 18, 29, 184, 0, 113, 153, 0, 11, 21, 4, 184, 0, 113, 154, 0, 10, 42, 16, 254, 182, 0, 89] := bysAt_of (by decide +kernel)
theorem dX7_hang_0 : decode cX7_hang 0 = .ok (.aload_n 0, 1) := o_42 (bg_dX7_hang_0 0 42 rfl)
theorem dX7_hang_1 : decode cX7_hang 1 = .ok (.iload_n 1, 1) := o_27 (bg_dX7_hang_0 1 27 rfl)
theorem dX7_hang_2 : decode cX7_hang 2 = .ok (.iload_n 2, 1) := o_28 (bg_dX7_hang_0 2 28 rfl)
theorem dX7_hang_3 : decode cX7_hang 3 = .ok (.invokevirtual 260, 3) := o_182 (bg_dX7_hang_0 3 182 rfl) (bg_dX7_hang_0 4 1 rfl) (bg_dX7_hang_0 5 4 rfl)
theorem dX7_hang_6 : decode cX7_hang 6 = .ok (.ifCond .eq 18, 3) := o_153 (bg_dX7_hang_0 6 153 rfl) (bg_dX7_hang_0 7 0 rfl) (bg_dX7_hang_0 8 18 rfl) (by decide +kernel)
theorem dX7_hang_9 : decode cX7_hang 9 = .ok (.iload_n 3, 1) := o_29 (bg_dX7_hang_0 9 29 rfl)
theorem dX7_hang_10 : decode cX7_hang 10 = .ok (.invokestatic 113, 3) := o_184 (bg_dX7_hang_0 10 184 rfl) (bg_dX7_hang_0 11 0 rfl) (bg_dX7_hang_0 12 113 rfl)
theorem dX7_hang_13 : decode cX7_hang 13 = .ok (.ifCond .eq 11, 3) := o_153 (bg_dX7_hang_0 13 153 rfl) (bg_dX7_hang_0 14 0 rfl) (bg_dX7_hang_0 15 11 rfl) (by decide +kernel)
theorem dX7_hang_16 : decode cX7_hang 16 = .ok (.iload 4, 2) := o_21 (bg_dX7_hang_0 16 21 rfl) (bg_dX7_hang_0 17 4 rfl)
theorem dX7_hang_18 : decode cX7_hang 18 = .ok (.invokestatic 113, 3) := o_184 (bg_dX7_hang_0 18 184 rfl) (bg_dX7_hang_0 19 0 rfl) (bg_dX7_hang_0 20 113 rfl)
theorem dX7_hang_21 : decode cX7_hang 21 = .ok (.ifCond .ne 10, 3) := o_154 (bg_dX7_hang_0 21 154 rfl) (bg_dX7_hang_0 22 0 rfl) (bg_dX7_hang_0 23 10 rfl) (by decide +kernel)
theorem dX7_hang_24 : decode cX7_hang 24 = .ok (.aload_n 0, 1) := o_42 (bg_dX7_hang_0 24 42 rfl)
theorem dX7_hang_25 : decode cX7_hang 25 = .ok (.bipush (-2), 2) := o_16 (bg_dX7_hang_0 25 16 rfl) (bg_dX7_hang_0 26 254 rfl) (by decide +kernel)
theorem dX7_hang_27 : decode cX7_hang 27 = .ok (.invokevirtual 89, 3) := o_182 (bg_dX7_hang_0 27 182 rfl) (bg_dX7_hang_0 28 0 rfl) (bg_dX7_hang_0 29 89 rfl)
theorem bg_dX7_hang_30 : bysAt cX7_hang 30 [172, 42, 180, 0, 70, 153, 0, 17, 42, 27, 28, 29, 21, 4, 4, 182, 1, 51, 2, 160, 0, 10, 42] := bysAt_of (by decide +kernel)
theorem dX7_hang_30 : decode cX7_hang 30 = .ok (.ireturn, 1) := o_172 (bg_dX7_hang_30 0 172 rfl)
theorem dX7_hang_31 : decode cX7_hang 31 = .ok (.aload_n 0, 1) := o_42 (bg_dX7_hang_30 1 42 rfl)
theorem dX7_hang_32 : decode cX7_hang 32 = .ok (.getfield 70, 3) := o_180 (bg_dX7_hang_30 2 180 rfl) (bg_dX7_hang_30 3 0 rfl) (bg_dX7_hang_30 4 70 rfl)
theorem dX7_hang_35 : decode cX7_hang 35 = .ok (.ifCond .eq 17, 3) := o_153 (bg_dX7_hang_30 5 153 rfl) (bg_dX7_hang_30 6 0 rfl) (bg_dX7_hang_30 7 17 rfl) (by decide +kernel)
theorem dX7_hang_38 : decode cX7_hang 38 = .ok (.aload_n 0, 1) := o_42 (bg_dX7_hang_30 8 42 rfl)
theorem dX7_hang_39 : decode cX7_hang 39 = .ok (.iload_n 1, 1) := o_27 (bg_dX7_hang_30 9 27 rfl)
theorem dX7_hang_40 : decode cX7_hang 40 = .ok (.iload_n 2, 1) := o_28 (bg_dX7_hang_30 10 28 rfl)
theorem dX7_hang_41 : decode cX7_hang 41 = .ok (.iload_n 3, 1) := o_29 (bg_dX7_hang_30 11 29 rfl)
theorem dX7_hang_42 : decode cX7_hang 42 = .ok (.iload 4, 2) := o_21 (bg_dX7_hang_30 12 21 rfl) (bg_dX7_hang_30 13 4 rfl)
theorem dX7_hang_44 : decode cX7_hang 44 = .ok (.iconst 1, 1) := o_4 (bg_dX7_hang_30 14 4 rfl)
theorem dX7_hang_45 : decode cX7_hang 45 = .ok (.invokevirtual 307, 3) := o_182 (bg_dX7_hang_30 15 182 rfl) (bg_dX7_hang_30 16 1 rfl) (bg_dX7_hang_30 17 51 rfl)
theorem dX7_hang_48 : decode cX7_hang 48 = .ok (.iconst (-1), 1) := o_2 (bg_dX7_hang_30 18 2 rfl)
theorem dX7_hang_49 : decode cX7_hang 49 = .ok (.if_icmp .ne 10, 3) := o_160 (bg_dX7_hang_30 19 160 rfl) (bg_dX7_hang_30 20 0 rfl) (bg_dX7_hang_30 21 10 rfl) (by decide +kernel)
theorem dX7_hang_52 : decode cX7_hang 52 = .ok (.aload_n 0, 1) := o_42 (bg_dX7_hang_30 22 42 rfl)
theorem bg_dX7_hang_53 : bysAt cX7_hang 53 [16, 251, 182, 0, 89, 172, 2, 54, 5, 9, 55, 6, 3, 54, 8, 21, 8, 42, 180, 0, 70, 162, 0, 95, 42] := bysAt_of (by decide +kernel)
theorem dX7_hang_53 : decode cX7_hang 53 = .ok (.bipush (-5), 2) := o_16 (bg_dX7_hang_53 0 16 rfl) (bg_dX7_hang_53 1 251 rfl) (by decide +kernel)
theorem dX7_hang_55 : decode cX7_hang 55 = .ok (.invokevirtual 89, 3) := o_182 (bg_dX7_hang_53 2 182 rfl) (bg_dX7_hang_53 3 0 rfl) (bg_dX7_hang_53 4 89 rfl)
theorem dX7_hang_58 : decode cX7_hang 58 = .ok (.ireturn, 1) := o_172 (bg_dX7_hang_53 5 172 rfl)
theorem dX7_hang_59 : decode cX7_hang 59 = .ok (.iconst (-1), 1) := o_2 (bg_dX7_hang_53 6 2 rfl)
theorem dX7_hang_60 : decode cX7_hang 60 = .ok (.istore 5, 2) := o_54 (bg_dX7_hang_53 7 54 rfl) (bg_dX7_hang_53 8 5 rfl)
theorem dX7_hang_62 : decode cX7_hang 62 = .ok (.lconst 0, 1) := o_9 (bg_dX7_hang_53 9 9 rfl)
theorem dX7_hang_63 : decode cX7_hang 63 = .ok (.lstore 6, 2) := o_55 (bg_dX7_hang_53 10 55 rfl) (bg_dX7_hang_53 11 6 rfl)
theorem dX7_hang_65 : decode cX7_hang 65 = .ok (.iconst 0, 1) := o_3 (bg_dX7_hang_53 12 3 rfl)
theorem dX7_hang_66 : decode cX7_hang 66 = .ok (.istore 8, 2) := o_54 (bg_dX7_hang_53 13 54 rfl) (bg_dX7_hang_53 14 8 rfl)
theorem dX7_hang_68 : decode cX7_hang 68 = .ok (.iload 8, 2) := o_21 (bg_dX7_hang_53 15 21 rfl) (bg_dX7_hang_53 16 8 rfl)
theorem dX7_hang_70 : decode cX7_hang 70 = .ok (.aload_n 0, 1) := o_42 (bg_dX7_hang_53 17 42 rfl)
theorem dX7_hang_71 : decode cX7_hang 71 = .ok (.getfield 70, 3) := o_180 (bg_dX7_hang_53 18 180 rfl) (bg_dX7_hang_53 19 0 rfl) (bg_dX7_hang_53 20 70 rfl)
theorem dX7_hang_74 : decode cX7_hang 74 = .ok (.if_icmp .ge 95, 3) := o_162 (bg_dX7_hang_53 21 162 rfl) (bg_dX7_hang_53 22 0 rfl) (bg_dX7_hang_53 23 95 rfl) (by decide +kernel)
theorem dX7_hang_77 : decode cX7_hang 77 = .ok (.aload_n 0, 1) := o_42 (bg_dX7_hang_53 24 42 rfl)
theorem bg_dX7_hang_78 : bysAt cX7_hang 78 [180, 0, 42, 21, 8, 50, 16, 8, 46, 54, 9, 42, 180, 0, 42, 21, 8, 50, 16, 8, 4, 79, 42] := bysAt_of (by decide +kernel)
theorem dX7_hang_78 : decode cX7_hang 78 = .ok (.getfield 42, 3) := o_180 (bg_dX7_hang_78 0 180 rfl) (bg_dX7_hang_78 1 0 rfl) (bg_dX7_hang_78 2 42 rfl)
theorem dX7_hang_81 : decode cX7_hang 81 = .ok (.iload 8, 2) := o_21 (bg_dX7_hang_78 3 21 rfl) (bg_dX7_hang_78 4 8 rfl)
theorem dX7_hang_83 : decode cX7_hang 83 = .ok (.aaload, 1) := o_50 (bg_dX7_hang_78 5 50 rfl)
theorem dX7_hang_84 : decode cX7_hang 84 = .ok (.bipush 8, 2) := o_16 (bg_dX7_hang_78 6 16 rfl) (bg_dX7_hang_78 7 8 rfl) (by decide +kernel)
theorem dX7_hang_86 : decode cX7_hang 86 = .ok (.iaload, 1) := o_46 (bg_dX7_hang_78 8 46 rfl)
theorem dX7_hang_87 : decode cX7_hang 87 = .ok (.istore 9, 2) := o_54 (bg_dX7_hang_78 9 54 rfl) (bg_dX7_hang_78 10 9 rfl)
theorem dX7_hang_89 : decode cX7_hang 89 = .ok (.aload_n 0, 1) := o_42 (bg_dX7_hang_78 11 42 rfl)
theorem dX7_hang_90 : decode cX7_hang 90 = .ok (.getfield 42, 3) := o_180 (bg_dX7_hang_78 12 180 rfl) (bg_dX7_hang_78 13 0 rfl) (bg_dX7_hang_78 14 42 rfl)
theorem dX7_hang_93 : decode cX7_hang 93 = .ok (.iload 8, 2) := o_21 (bg_dX7_hang_78 15 21 rfl) (bg_dX7_hang_78 16 8 rfl)
theorem dX7_hang_95 : decode cX7_hang 95 = .ok (.aaload, 1) := o_50 (bg_dX7_hang_78 17 50 rfl)
theorem dX7_hang_96 : decode cX7_hang 96 = .ok (.bipush 8, 2) := o_16 (bg_dX7_hang_78 18 16 rfl) (bg_dX7_hang_78 19 8 rfl) (by decide +kernel)
theorem dX7_hang_98 : decode cX7_hang 98 = .ok (.iconst 1, 1) := o_4 (bg_dX7_hang_78 20 4 rfl)
theorem dX7_hang_99 : decode cX7_hang 99 = .ok (.iastore, 1) := o_79 (bg_dX7_hang_78 21 79 rfl)
theorem dX7_hang_100 : decode cX7_hang 100 = .ok (.aload_n 0, 1) := o_42 (bg_dX7_hang_78 22 42 rfl)
theorem bg_dX7_hang_101 : bysAt cX7_hang 101 [27, 28, 29, 21, 4, 4, 182, 1, 51, 54, 10, 42, 180, 0, 42, 21, 8, 50, 16, 8, 21, 9, 79] := bysAt_of (by decide +kernel)
theorem dX7_hang_101 : decode cX7_hang 101 = .ok (.iload_n 1, 1) := o_27 (bg_dX7_hang_101 0 27 rfl)
theorem dX7_hang_102 : decode cX7_hang 102 = .ok (.iload_n 2, 1) := o_28 (bg_dX7_hang_101 1 28 rfl)
theorem dX7_hang_103 : decode cX7_hang 103 = .ok (.iload_n 3, 1) := o_29 (bg_dX7_hang_101 2 29 rfl)
theorem dX7_hang_104 : decode cX7_hang 104 = .ok (.iload 4, 2) := o_21 (bg_dX7_hang_101 3 21 rfl) (bg_dX7_hang_101 4 4 rfl)
theorem dX7_hang_106 : decode cX7_hang 106 = .ok (.iconst 1, 1) := o_4 (bg_dX7_hang_101 5 4 rfl)
theorem dX7_hang_107 : decode cX7_hang 107 = .ok (.invokevirtual 307, 3) := o_182 (bg_dX7_hang_101 6 182 rfl) (bg_dX7_hang_101 7 1 rfl) (bg_dX7_hang_101 8 51 rfl)
theorem dX7_hang_110 : decode cX7_hang 110 = .ok (.istore 10, 2) := o_54 (bg_dX7_hang_101 9 54 rfl) (bg_dX7_hang_101 10 10 rfl)
theorem dX7_hang_112 : decode cX7_hang 112 = .ok (.aload_n 0, 1) := o_42 (bg_dX7_hang_101 11 42 rfl)
theorem dX7_hang_113 : decode cX7_hang 113 = .ok (.getfield 42, 3) := o_180 (bg_dX7_hang_101 12 180 rfl) (bg_dX7_hang_101 13 0 rfl) (bg_dX7_hang_101 14 42 rfl)
theorem dX7_hang_116 : decode cX7_hang 116 = .ok (.iload 8, 2) := o_21 (bg_dX7_hang_101 15 21 rfl) (bg_dX7_hang_101 16 8 rfl)
theorem dX7_hang_118 : decode cX7_hang 118 = .ok (.aaload, 1) := o_50 (bg_dX7_hang_101 17 50 rfl)
theorem dX7_hang_119 : decode cX7_hang 119 = .ok (.bipush 8, 2) := o_16 (bg_dX7_hang_101 18 16 rfl) (bg_dX7_hang_101 19 8 rfl) (by decide +kernel)
theorem dX7_hang_121 : decode cX7_hang 121 = .ok (.iload 9, 2) := o_21 (bg_dX7_hang_101 20 21 rfl) (bg_dX7_hang_101 21 9 rfl)
theorem dX7_hang_123 : decode cX7_hang 123 = .ok (.iastore, 1) := o_79 (bg_dX7_hang_101 22 79 rfl)
theorem bg_dX7_hang_124 : bysAt cX7_hang 124 [21, 10, 2, 160, 0, 9, 20, 1, 36, 167, 0, 6, 21, 10, 133, 55, 11, 21, 5, 2, 159, 0, 11, 22, 11, 22, 6, 148] := bysAt_of (by decide +kernel)
theorem dX7_hang_124 : decode cX7_hang 124 = .ok (.iload 10, 2) := o_21 (bg_dX7_hang_124 0 21 rfl) (bg_dX7_hang_124 1 10 rfl)
theorem dX7_hang_126 : decode cX7_hang 126 = .ok (.iconst (-1), 1) := o_2 (bg_dX7_hang_124 2 2 rfl)
theorem dX7_hang_127 : decode cX7_hang 127 = .ok (.if_icmp .ne 9, 3) := o_160 (bg_dX7_hang_124 3 160 rfl) (bg_dX7_hang_124 4 0 rfl) (bg_dX7_hang_124 5 9 rfl) (by decide +kernel)
theorem dX7_hang_130 : decode cX7_hang 130 = .ok (.ldc2_w 292, 3) := o_20 (bg_dX7_hang_124 6 20 rfl) (bg_dX7_hang_124 7 1 rfl) (bg_dX7_hang_124 8 36 rfl)
theorem dX7_hang_133 : decode cX7_hang 133 = .ok (.goto 6, 3) := o_167 (bg_dX7_hang_124 9 167 rfl) (bg_dX7_hang_124 10 0 rfl) (bg_dX7_hang_124 11 6 rfl) (by decide +kernel)
theorem dX7_hang_136 : decode cX7_hang 136 = .ok (.iload 10, 2) := o_21 (bg_dX7_hang_124 12 21 rfl) (bg_dX7_hang_124 13 10 rfl)
theorem dX7_hang_138 : decode cX7_hang 138 = .ok (.i2l, 1) := o_133 (bg_dX7_hang_124 14 133 rfl)
theorem dX7_hang_139 : decode cX7_hang 139 = .ok (.lstore 11, 2) := o_55 (bg_dX7_hang_124 15 55 rfl) (bg_dX7_hang_124 16 11 rfl)
theorem dX7_hang_141 : decode cX7_hang 141 = .ok (.iload 5, 2) := o_21 (bg_dX7_hang_124 17 21 rfl) (bg_dX7_hang_124 18 5 rfl)
theorem dX7_hang_143 : decode cX7_hang 143 = .ok (.iconst (-1), 1) := o_2 (bg_dX7_hang_124 19 2 rfl)
theorem dX7_hang_144 : decode cX7_hang 144 = .ok (.if_icmp .eq 11, 3) := o_159 (bg_dX7_hang_124 20 159 rfl) (bg_dX7_hang_124 21 0 rfl) (bg_dX7_hang_124 22 11 rfl) (by decide +kernel)
theorem dX7_hang_147 : decode cX7_hang 147 = .ok (.lload 11, 2) := o_22 (bg_dX7_hang_124 23 22 rfl) (bg_dX7_hang_124 24 11 rfl)
theorem dX7_hang_149 : decode cX7_hang 149 = .ok (.lload 6, 2) := o_22 (bg_dX7_hang_124 25 22 rfl) (bg_dX7_hang_124 26 6 rfl)
theorem dX7_hang_151 : decode cX7_hang 151 = .ok (.lcmp, 1) := o_148 (bg_dX7_hang_124 27 148 rfl)
theorem bg_dX7_hang_152 : bysAt cX7_hang 152 [158, 0, 11, 21, 8, 54, 5, 22, 11, 55, 6, 132, 8, 1, 167, 255, 158, 21, 5, 172] := bysAt_of (by decide +kernel)
theorem dX7_hang_152 : decode cX7_hang 152 = .ok (.ifCond .le 11, 3) := o_158 (bg_dX7_hang_152 0 158 rfl) (bg_dX7_hang_152 1 0 rfl) (bg_dX7_hang_152 2 11 rfl) (by decide +kernel)
theorem dX7_hang_155 : decode cX7_hang 155 = .ok (.iload 8, 2) := o_21 (bg_dX7_hang_152 3 21 rfl) (bg_dX7_hang_152 4 8 rfl)
theorem dX7_hang_157 : decode cX7_hang 157 = .ok (.istore 5, 2) := o_54 (bg_dX7_hang_152 5 54 rfl) (bg_dX7_hang_152 6 5 rfl)
theorem dX7_hang_159 : decode cX7_hang 159 = .ok (.lload 11, 2) := o_22 (bg_dX7_hang_152 7 22 rfl) (bg_dX7_hang_152 8 11 rfl)
theorem dX7_hang_161 : decode cX7_hang 161 = .ok (.lstore 6, 2) := o_55 (bg_dX7_hang_152 9 55 rfl) (bg_dX7_hang_152 10 6 rfl)
theorem dX7_hang_166 : decode cX7_hang 166 = .ok (.goto (-98), 3) := o_167 (bg_dX7_hang_152 14 167 rfl) (bg_dX7_hang_152 15 255 rfl) (bg_dX7_hang_152 16 158 rfl) (by decide +kernel)
theorem dX7_hang_169 : decode cX7_hang 169 = .ok (.iload 5, 2) := o_21 (bg_dX7_hang_152 17 21 rfl) (bg_dX7_hang_152 18 5 rfl)
theorem dX7_hang_171 : decode cX7_hang 171 = .ok (.ireturn, 1) := o_172 (bg_dX7_hang_152 19 172 rfl)
theorem bg_dX7_judge_0 : bysAt cX7_judge 0 [42, 27, 28, 29, 21, 4, 21, 5, 182, 1, 57, 54, 6, 21, 6, 153, 0, 8, 21, 6, 167, 0, 14, 42, 27] := bysAt_of (by decide +kernel)
theorem dX7_judge_0 : decode cX7_judge 0 = .ok (.aload_n 0, 1) := o_42 (bg_dX7_judge_0 0 42 rfl)
theorem dX7_judge_1 : decode cX7_judge 1 = .ok (.iload_n 1, 1) := o_27 (bg_dX7_judge_0 1 27 rfl)
theorem dX7_judge_2 : decode cX7_judge 2 = .ok (.iload_n 2, 1) := o_28 (bg_dX7_judge_0 2 28 rfl)
theorem dX7_judge_3 : decode cX7_judge 3 = .ok (.iload_n 3, 1) := o_29 (bg_dX7_judge_0 3 29 rfl)
theorem dX7_judge_4 : decode cX7_judge 4 = .ok (.iload 4, 2) := o_21 (bg_dX7_judge_0 4 21 rfl) (bg_dX7_judge_0 5 4 rfl)
theorem dX7_judge_6 : decode cX7_judge 6 = .ok (.iload 5, 2) := o_21 (bg_dX7_judge_0 6 21 rfl) (bg_dX7_judge_0 7 5 rfl)
theorem dX7_judge_8 : decode cX7_judge 8 = .ok (.invokevirtual 313, 3) := o_182 (bg_dX7_judge_0 8 182 rfl) (bg_dX7_judge_0 9 1 rfl) (bg_dX7_judge_0 10 57 rfl)
theorem dX7_judge_11 : decode cX7_judge 11 = .ok (.istore 6, 2) := o_54 (bg_dX7_judge_0 11 54 rfl) (bg_dX7_judge_0 12 6 rfl)
theorem dX7_judge_13 : decode cX7_judge 13 = .ok (.iload 6, 2) := o_21 (bg_dX7_judge_0 13 21 rfl) (bg_dX7_judge_0 14 6 rfl)
theorem dX7_judge_15 : decode cX7_judge 15 = .ok (.ifCond .eq 8, 3) := o_153 (bg_dX7_judge_0 15 153 rfl) (bg_dX7_judge_0 16 0 rfl) (bg_dX7_judge_0 17 8 rfl) (by decide +kernel)
theorem dX7_judge_18 : decode cX7_judge 18 = .ok (.iload 6, 2) := o_21 (bg_dX7_judge_0 18 21 rfl) (bg_dX7_judge_0 19 6 rfl)
theorem dX7_judge_20 : decode cX7_judge 20 = .ok (.goto 14, 3) := o_167 (bg_dX7_judge_0 20 167 rfl) (bg_dX7_judge_0 21 0 rfl) (bg_dX7_judge_0 22 14 rfl) (by decide +kernel)
theorem dX7_judge_23 : decode cX7_judge 23 = .ok (.aload_n 0, 1) := o_42 (bg_dX7_judge_0 23 42 rfl)
theorem dX7_judge_24 : decode cX7_judge 24 = .ok (.iload_n 1, 1) := o_27 (bg_dX7_judge_0 24 27 rfl)
theorem bg_dX7_judge_25 : bysAt cX7_judge 25 [28, 29, 21, 4, 21, 5, 182, 1, 60, 172] := bysAt_of (by decide +kernel)
theorem dX7_judge_25 : decode cX7_judge 25 = .ok (.iload_n 2, 1) := o_28 (bg_dX7_judge_25 0 28 rfl)
theorem dX7_judge_26 : decode cX7_judge 26 = .ok (.iload_n 3, 1) := o_29 (bg_dX7_judge_25 1 29 rfl)
theorem dX7_judge_27 : decode cX7_judge 27 = .ok (.iload 4, 2) := o_21 (bg_dX7_judge_25 2 21 rfl) (bg_dX7_judge_25 3 4 rfl)
theorem dX7_judge_29 : decode cX7_judge 29 = .ok (.iload 5, 2) := o_21 (bg_dX7_judge_25 4 21 rfl) (bg_dX7_judge_25 5 5 rfl)
theorem dX7_judge_31 : decode cX7_judge 31 = .ok (.invokevirtual 316, 3) := o_182 (bg_dX7_judge_25 6 182 rfl) (bg_dX7_judge_25 7 1 rfl) (bg_dX7_judge_25 8 60 rfl)
theorem dX7_judge_34 : decode cX7_judge 34 = .ok (.ireturn, 1) := o_172 (bg_dX7_judge_25 9 172 rfl)
theorem bg_dX7_most_0 : bysAt cX7_most 0 [42, 27, 182, 0, 76, 153, 0, 17, 28, 184, 0, 113, 153, 0, 10, 29, 184, 0, 113, 154, 0, 10, 42, 16, 254, 182, 0, 89, 172] := bysAt_of (by decide +kernel)
theorem dX7_most_0 : decode cX7_most 0 = .ok (.aload_n 0, 1) := o_42 (bg_dX7_most_0 0 42 rfl)
theorem dX7_most_1 : decode cX7_most 1 = .ok (.iload_n 1, 1) := o_27 (bg_dX7_most_0 1 27 rfl)
theorem dX7_most_2 : decode cX7_most 2 = .ok (.invokevirtual 76, 3) := o_182 (bg_dX7_most_0 2 182 rfl) (bg_dX7_most_0 3 0 rfl) (bg_dX7_most_0 4 76 rfl)
theorem dX7_most_5 : decode cX7_most 5 = .ok (.ifCond .eq 17, 3) := o_153 (bg_dX7_most_0 5 153 rfl) (bg_dX7_most_0 6 0 rfl) (bg_dX7_most_0 7 17 rfl) (by decide +kernel)
theorem dX7_most_8 : decode cX7_most 8 = .ok (.iload_n 2, 1) := o_28 (bg_dX7_most_0 8 28 rfl)
theorem dX7_most_9 : decode cX7_most 9 = .ok (.invokestatic 113, 3) := o_184 (bg_dX7_most_0 9 184 rfl) (bg_dX7_most_0 10 0 rfl) (bg_dX7_most_0 11 113 rfl)
theorem dX7_most_12 : decode cX7_most 12 = .ok (.ifCond .eq 10, 3) := o_153 (bg_dX7_most_0 12 153 rfl) (bg_dX7_most_0 13 0 rfl) (bg_dX7_most_0 14 10 rfl) (by decide +kernel)
theorem dX7_most_15 : decode cX7_most 15 = .ok (.iload_n 3, 1) := o_29 (bg_dX7_most_0 15 29 rfl)
theorem dX7_most_16 : decode cX7_most 16 = .ok (.invokestatic 113, 3) := o_184 (bg_dX7_most_0 16 184 rfl) (bg_dX7_most_0 17 0 rfl) (bg_dX7_most_0 18 113 rfl)
theorem dX7_most_19 : decode cX7_most 19 = .ok (.ifCond .ne 10, 3) := o_154 (bg_dX7_most_0 19 154 rfl) (bg_dX7_most_0 20 0 rfl) (bg_dX7_most_0 21 10 rfl) (by decide +kernel)
theorem dX7_most_22 : decode cX7_most 22 = .ok (.aload_n 0, 1) := o_42 (bg_dX7_most_0 22 42 rfl)
theorem dX7_most_23 : decode cX7_most 23 = .ok (.bipush (-2), 2) := o_16 (bg_dX7_most_0 23 16 rfl) (bg_dX7_most_0 24 254 rfl) (by decide +kernel)
theorem dX7_most_25 : decode cX7_most 25 = .ok (.invokevirtual 89, 3) := o_182 (bg_dX7_most_0 25 182 rfl) (bg_dX7_most_0 26 0 rfl) (bg_dX7_most_0 27 89 rfl)
theorem dX7_most_28 : decode cX7_most 28 = .ok (.ireturn, 1) := o_172 (bg_dX7_most_0 28 172 rfl)
theorem bg_dX7_most_29 : bysAt cX7_most 29 [42, 180, 0, 51, 3, 46, 54, 4, 2, 54, 5, 3, 54, 6, 17, 3, 132, 54, 7, 21, 6, 21, 7, 163, 0, 63] := bysAt_of (by decide +kernel)
theorem dX7_most_29 : decode cX7_most 29 = .ok (.aload_n 0, 1) := o_42 (bg_dX7_most_29 0 42 rfl)
theorem dX7_most_30 : decode cX7_most 30 = .ok (.getfield 51, 3) := o_180 (bg_dX7_most_29 1 180 rfl) (bg_dX7_most_29 2 0 rfl) (bg_dX7_most_29 3 51 rfl)
theorem dX7_most_33 : decode cX7_most 33 = .ok (.iconst 0, 1) := o_3 (bg_dX7_most_29 4 3 rfl)
theorem dX7_most_34 : decode cX7_most 34 = .ok (.iaload, 1) := o_46 (bg_dX7_most_29 5 46 rfl)
theorem dX7_most_35 : decode cX7_most 35 = .ok (.istore 4, 2) := o_54 (bg_dX7_most_29 6 54 rfl) (bg_dX7_most_29 7 4 rfl)
theorem dX7_most_37 : decode cX7_most 37 = .ok (.iconst (-1), 1) := o_2 (bg_dX7_most_29 8 2 rfl)
theorem dX7_most_38 : decode cX7_most 38 = .ok (.istore 5, 2) := o_54 (bg_dX7_most_29 9 54 rfl) (bg_dX7_most_29 10 5 rfl)
theorem dX7_most_40 : decode cX7_most 40 = .ok (.iconst 0, 1) := o_3 (bg_dX7_most_29 11 3 rfl)
theorem dX7_most_41 : decode cX7_most 41 = .ok (.istore 6, 2) := o_54 (bg_dX7_most_29 12 54 rfl) (bg_dX7_most_29 13 6 rfl)
theorem dX7_most_43 : decode cX7_most 43 = .ok (.sipush 900, 3) := o_17 (bg_dX7_most_29 14 17 rfl) (bg_dX7_most_29 15 3 rfl) (bg_dX7_most_29 16 132 rfl) (by decide +kernel)
theorem dX7_most_46 : decode cX7_most 46 = .ok (.istore 7, 2) := o_54 (bg_dX7_most_29 17 54 rfl) (bg_dX7_most_29 18 7 rfl)
theorem dX7_most_48 : decode cX7_most 48 = .ok (.iload 6, 2) := o_21 (bg_dX7_most_29 19 21 rfl) (bg_dX7_most_29 20 6 rfl)
theorem dX7_most_50 : decode cX7_most 50 = .ok (.iload 7, 2) := o_21 (bg_dX7_most_29 21 21 rfl) (bg_dX7_most_29 22 7 rfl)
theorem dX7_most_52 : decode cX7_most 52 = .ok (.if_icmp .gt 63, 3) := o_163 (bg_dX7_most_29 23 163 rfl) (bg_dX7_most_29 24 0 rfl) (bg_dX7_most_29 25 63 rfl) (by decide +kernel)
theorem bg_dX7_most_55 : bysAt cX7_most 55 [42, 180, 0, 51, 3, 21, 6, 21, 7, 96, 5, 108, 79, 42, 27, 3, 28, 29] := bysAt_of (by decide +kernel)
theorem dX7_most_55 : decode cX7_most 55 = .ok (.aload_n 0, 1) := o_42 (bg_dX7_most_55 0 42 rfl)
theorem dX7_most_56 : decode cX7_most 56 = .ok (.getfield 51, 3) := o_180 (bg_dX7_most_55 1 180 rfl) (bg_dX7_most_55 2 0 rfl) (bg_dX7_most_55 3 51 rfl)
theorem dX7_most_59 : decode cX7_most 59 = .ok (.iconst 0, 1) := o_3 (bg_dX7_most_55 4 3 rfl)
theorem dX7_most_60 : decode cX7_most 60 = .ok (.iload 6, 2) := o_21 (bg_dX7_most_55 5 21 rfl) (bg_dX7_most_55 6 6 rfl)
theorem dX7_most_62 : decode cX7_most 62 = .ok (.iload 7, 2) := o_21 (bg_dX7_most_55 7 21 rfl) (bg_dX7_most_55 8 7 rfl)
theorem dX7_most_64 : decode cX7_most 64 = .ok (.iadd, 1) := o_96 (bg_dX7_most_55 9 96 rfl)
theorem dX7_most_65 : decode cX7_most 65 = .ok (.iconst 2, 1) := o_5 (bg_dX7_most_55 10 5 rfl)
theorem dX7_most_66 : decode cX7_most 66 = .ok (.idiv, 1) := o_108 (bg_dX7_most_55 11 108 rfl)
theorem dX7_most_67 : decode cX7_most 67 = .ok (.iastore, 1) := o_79 (bg_dX7_most_55 12 79 rfl)
theorem dX7_most_68 : decode cX7_most 68 = .ok (.aload_n 0, 1) := o_42 (bg_dX7_most_55 13 42 rfl)
theorem dX7_most_69 : decode cX7_most 69 = .ok (.iload_n 1, 1) := o_27 (bg_dX7_most_55 14 27 rfl)
theorem dX7_most_70 : decode cX7_most 70 = .ok (.iconst 0, 1) := o_3 (bg_dX7_most_55 15 3 rfl)
theorem dX7_most_71 : decode cX7_most 71 = .ok (.iload_n 2, 1) := o_28 (bg_dX7_most_55 16 28 rfl)
theorem dX7_most_72 : decode cX7_most 72 = .ok (.iload_n 3, 1) := o_29 (bg_dX7_most_55 17 29 rfl)
theorem bg_dX7_most_73 : bysAt cX7_most 73 [4, 182, 1, 51, 2, 159, 0, 24, 42, 180, 0, 51, 3, 46, 54, 5, 42, 180, 0, 51, 3, 46, 4] := bysAt_of (by decide +kernel)
theorem dX7_most_73 : decode cX7_most 73 = .ok (.iconst 1, 1) := o_4 (bg_dX7_most_73 0 4 rfl)
theorem dX7_most_74 : decode cX7_most 74 = .ok (.invokevirtual 307, 3) := o_182 (bg_dX7_most_73 1 182 rfl) (bg_dX7_most_73 2 1 rfl) (bg_dX7_most_73 3 51 rfl)
theorem dX7_most_77 : decode cX7_most 77 = .ok (.iconst (-1), 1) := o_2 (bg_dX7_most_73 4 2 rfl)
theorem dX7_most_78 : decode cX7_most 78 = .ok (.if_icmp .eq 24, 3) := o_159 (bg_dX7_most_73 5 159 rfl) (bg_dX7_most_73 6 0 rfl) (bg_dX7_most_73 7 24 rfl) (by decide +kernel)
theorem dX7_most_81 : decode cX7_most 81 = .ok (.aload_n 0, 1) := o_42 (bg_dX7_most_73 8 42 rfl)
theorem dX7_most_82 : decode cX7_most 82 = .ok (.getfield 51, 3) := o_180 (bg_dX7_most_73 9 180 rfl) (bg_dX7_most_73 10 0 rfl) (bg_dX7_most_73 11 51 rfl)
theorem dX7_most_85 : decode cX7_most 85 = .ok (.iconst 0, 1) := o_3 (bg_dX7_most_73 12 3 rfl)
theorem dX7_most_86 : decode cX7_most 86 = .ok (.iaload, 1) := o_46 (bg_dX7_most_73 13 46 rfl)
theorem dX7_most_87 : decode cX7_most 87 = .ok (.istore 5, 2) := o_54 (bg_dX7_most_73 14 54 rfl) (bg_dX7_most_73 15 5 rfl)
theorem dX7_most_89 : decode cX7_most 89 = .ok (.aload_n 0, 1) := o_42 (bg_dX7_most_73 16 42 rfl)
theorem dX7_most_90 : decode cX7_most 90 = .ok (.getfield 51, 3) := o_180 (bg_dX7_most_73 17 180 rfl) (bg_dX7_most_73 18 0 rfl) (bg_dX7_most_73 19 51 rfl)
theorem dX7_most_93 : decode cX7_most 93 = .ok (.iconst 0, 1) := o_3 (bg_dX7_most_73 20 3 rfl)
theorem dX7_most_94 : decode cX7_most 94 = .ok (.iaload, 1) := o_46 (bg_dX7_most_73 21 46 rfl)
theorem dX7_most_95 : decode cX7_most 95 = .ok (.iconst 1, 1) := o_4 (bg_dX7_most_73 22 4 rfl)
theorem bg_dX7_most_96 : bysAt cX7_most 96 [96, 54, 6, 167, 255, 205, 42, 180, 0, 51, 3, 46, 4, 100, 54, 7, 167, 255, 192, 42, 180, 0, 51, 3] := bysAt_of (by decide +kernel)
theorem dX7_most_96 : decode cX7_most 96 = .ok (.iadd, 1) := o_96 (bg_dX7_most_96 0 96 rfl)
theorem dX7_most_97 : decode cX7_most 97 = .ok (.istore 6, 2) := o_54 (bg_dX7_most_96 1 54 rfl) (bg_dX7_most_96 2 6 rfl)
theorem dX7_most_99 : decode cX7_most 99 = .ok (.goto (-51), 3) := o_167 (bg_dX7_most_96 3 167 rfl) (bg_dX7_most_96 4 255 rfl) (bg_dX7_most_96 5 205 rfl) (by decide +kernel)
theorem dX7_most_102 : decode cX7_most 102 = .ok (.aload_n 0, 1) := o_42 (bg_dX7_most_96 6 42 rfl)
theorem dX7_most_103 : decode cX7_most 103 = .ok (.getfield 51, 3) := o_180 (bg_dX7_most_96 7 180 rfl) (bg_dX7_most_96 8 0 rfl) (bg_dX7_most_96 9 51 rfl)
theorem dX7_most_106 : decode cX7_most 106 = .ok (.iconst 0, 1) := o_3 (bg_dX7_most_96 10 3 rfl)
theorem dX7_most_107 : decode cX7_most 107 = .ok (.iaload, 1) := o_46 (bg_dX7_most_96 11 46 rfl)
theorem dX7_most_108 : decode cX7_most 108 = .ok (.iconst 1, 1) := o_4 (bg_dX7_most_96 12 4 rfl)
theorem dX7_most_109 : decode cX7_most 109 = .ok (.isub, 1) := o_100 (bg_dX7_most_96 13 100 rfl)
theorem dX7_most_110 : decode cX7_most 110 = .ok (.istore 7, 2) := o_54 (bg_dX7_most_96 14 54 rfl) (bg_dX7_most_96 15 7 rfl)
theorem dX7_most_112 : decode cX7_most 112 = .ok (.goto (-64), 3) := o_167 (bg_dX7_most_96 16 167 rfl) (bg_dX7_most_96 17 255 rfl) (bg_dX7_most_96 18 192 rfl) (by decide +kernel)
theorem dX7_most_115 : decode cX7_most 115 = .ok (.aload_n 0, 1) := o_42 (bg_dX7_most_96 19 42 rfl)
theorem dX7_most_116 : decode cX7_most 116 = .ok (.getfield 51, 3) := o_180 (bg_dX7_most_96 20 180 rfl) (bg_dX7_most_96 21 0 rfl) (bg_dX7_most_96 22 51 rfl)
theorem dX7_most_119 : decode cX7_most 119 = .ok (.iconst 0, 1) := o_3 (bg_dX7_most_96 23 3 rfl)
theorem bg_dX7_most_120 : bysAt cX7_most 120 [21, 4, 79, 21, 5, 2, 160, 0, 12, 42, 16, 251, 182, 0, 89, 167, 0, 5, 21, 5, 172] := bysAt_of (by decide +kernel)
theorem dX7_most_120 : decode cX7_most 120 = .ok (.iload 4, 2) := o_21 (bg_dX7_most_120 0 21 rfl) (bg_dX7_most_120 1 4 rfl)
theorem dX7_most_122 : decode cX7_most 122 = .ok (.iastore, 1) := o_79 (bg_dX7_most_120 2 79 rfl)
theorem dX7_most_123 : decode cX7_most 123 = .ok (.iload 5, 2) := o_21 (bg_dX7_most_120 3 21 rfl) (bg_dX7_most_120 4 5 rfl)
theorem dX7_most_125 : decode cX7_most 125 = .ok (.iconst (-1), 1) := o_2 (bg_dX7_most_120 5 2 rfl)
theorem dX7_most_126 : decode cX7_most 126 = .ok (.if_icmp .ne 12, 3) := o_160 (bg_dX7_most_120 6 160 rfl) (bg_dX7_most_120 7 0 rfl) (bg_dX7_most_120 8 12 rfl) (by decide +kernel)
theorem dX7_most_129 : decode cX7_most 129 = .ok (.aload_n 0, 1) := o_42 (bg_dX7_most_120 9 42 rfl)
theorem dX7_most_130 : decode cX7_most 130 = .ok (.bipush (-5), 2) := o_16 (bg_dX7_most_120 10 16 rfl) (bg_dX7_most_120 11 251 rfl) (by decide +kernel)
theorem dX7_most_132 : decode cX7_most 132 = .ok (.invokevirtual 89, 3) := o_182 (bg_dX7_most_120 12 182 rfl) (bg_dX7_most_120 13 0 rfl) (bg_dX7_most_120 14 89 rfl)
theorem dX7_most_135 : decode cX7_most 135 = .ok (.goto 5, 3) := o_167 (bg_dX7_most_120 15 167 rfl) (bg_dX7_most_120 16 0 rfl) (bg_dX7_most_120 17 5 rfl) (by decide +kernel)
theorem dX7_most_138 : decode cX7_most 138 = .ok (.iload 5, 2) := o_21 (bg_dX7_most_120 18 21 rfl) (bg_dX7_most_120 19 5 rfl)
theorem dX7_most_140 : decode cX7_most 140 = .ok (.ireturn, 1) := o_172 (bg_dX7_most_120 20 172 rfl)
theorem bg_dX7_noWay_0 : bysAt cX7_noWay 0 [42, 27, 28, 182, 1, 4, 153, 0, 36, 29, 184, 0, 113, 153, 0, 29, 21, 4, 133, 9, 20, 0, 83, 184, 0, 62, 153, 0, 16] := bysAt_of (by decide +kernel)
theorem dX7_noWay_0 : decode cX7_noWay 0 = .ok (.aload_n 0, 1) := o_42 (bg_dX7_noWay_0 0 42 rfl)
theorem dX7_noWay_1 : decode cX7_noWay 1 = .ok (.iload_n 1, 1) := o_27 (bg_dX7_noWay_0 1 27 rfl)
theorem dX7_noWay_2 : decode cX7_noWay 2 = .ok (.iload_n 2, 1) := o_28 (bg_dX7_noWay_0 2 28 rfl)
theorem dX7_noWay_3 : decode cX7_noWay 3 = .ok (.invokevirtual 260, 3) := o_182 (bg_dX7_noWay_0 3 182 rfl) (bg_dX7_noWay_0 4 1 rfl) (bg_dX7_noWay_0 5 4 rfl)
theorem dX7_noWay_6 : decode cX7_noWay 6 = .ok (.ifCond .eq 36, 3) := o_153 (bg_dX7_noWay_0 6 153 rfl) (bg_dX7_noWay_0 7 0 rfl) (bg_dX7_noWay_0 8 36 rfl) (by decide +kernel)
theorem dX7_noWay_9 : decode cX7_noWay 9 = .ok (.iload_n 3, 1) := o_29 (bg_dX7_noWay_0 9 29 rfl)
theorem dX7_noWay_10 : decode cX7_noWay 10 = .ok (.invokestatic 113, 3) := o_184 (bg_dX7_noWay_0 10 184 rfl) (bg_dX7_noWay_0 11 0 rfl) (bg_dX7_noWay_0 12 113 rfl)
theorem dX7_noWay_13 : decode cX7_noWay 13 = .ok (.ifCond .eq 29, 3) := o_153 (bg_dX7_noWay_0 13 153 rfl) (bg_dX7_noWay_0 14 0 rfl) (bg_dX7_noWay_0 15 29 rfl) (by decide +kernel)
theorem dX7_noWay_16 : decode cX7_noWay 16 = .ok (.iload 4, 2) := o_21 (bg_dX7_noWay_0 16 21 rfl) (bg_dX7_noWay_0 17 4 rfl)
theorem dX7_noWay_18 : decode cX7_noWay 18 = .ok (.i2l, 1) := o_133 (bg_dX7_noWay_0 18 133 rfl)
theorem dX7_noWay_19 : decode cX7_noWay 19 = .ok (.lconst 0, 1) := o_9 (bg_dX7_noWay_0 19 9 rfl)
theorem dX7_noWay_20 : decode cX7_noWay 20 = .ok (.ldc2_w 83, 3) := o_20 (bg_dX7_noWay_0 20 20 rfl) (bg_dX7_noWay_0 21 0 rfl) (bg_dX7_noWay_0 22 83 rfl)
theorem dX7_noWay_23 : decode cX7_noWay 23 = .ok (.invokestatic 62, 3) := o_184 (bg_dX7_noWay_0 23 184 rfl) (bg_dX7_noWay_0 24 0 rfl) (bg_dX7_noWay_0 25 62 rfl)
theorem dX7_noWay_26 : decode cX7_noWay 26 = .ok (.ifCond .eq 16, 3) := o_153 (bg_dX7_noWay_0 26 153 rfl) (bg_dX7_noWay_0 27 0 rfl) (bg_dX7_noWay_0 28 16 rfl) (by decide +kernel)
theorem bg_dX7_noWay_29 : bysAt cX7_noWay 29 [21, 5, 133, 9, 20, 1, 49, 184, 0, 62, 154, 0, 10, 42, 16, 254, 182, 0, 89, 172, 42, 180, 0, 7, 21, 4, 46] := bysAt_of (by decide +kernel)
theorem dX7_noWay_29 : decode cX7_noWay 29 = .ok (.iload 5, 2) := o_21 (bg_dX7_noWay_29 0 21 rfl) (bg_dX7_noWay_29 1 5 rfl)
theorem dX7_noWay_31 : decode cX7_noWay 31 = .ok (.i2l, 1) := o_133 (bg_dX7_noWay_29 2 133 rfl)
theorem dX7_noWay_32 : decode cX7_noWay 32 = .ok (.lconst 0, 1) := o_9 (bg_dX7_noWay_29 3 9 rfl)
theorem dX7_noWay_33 : decode cX7_noWay 33 = .ok (.ldc2_w 305, 3) := o_20 (bg_dX7_noWay_29 4 20 rfl) (bg_dX7_noWay_29 5 1 rfl) (bg_dX7_noWay_29 6 49 rfl)
theorem dX7_noWay_36 : decode cX7_noWay 36 = .ok (.invokestatic 62, 3) := o_184 (bg_dX7_noWay_29 7 184 rfl) (bg_dX7_noWay_29 8 0 rfl) (bg_dX7_noWay_29 9 62 rfl)
theorem dX7_noWay_39 : decode cX7_noWay 39 = .ok (.ifCond .ne 10, 3) := o_154 (bg_dX7_noWay_29 10 154 rfl) (bg_dX7_noWay_29 11 0 rfl) (bg_dX7_noWay_29 12 10 rfl) (by decide +kernel)
theorem dX7_noWay_42 : decode cX7_noWay 42 = .ok (.aload_n 0, 1) := o_42 (bg_dX7_noWay_29 13 42 rfl)
theorem dX7_noWay_43 : decode cX7_noWay 43 = .ok (.bipush (-2), 2) := o_16 (bg_dX7_noWay_29 14 16 rfl) (bg_dX7_noWay_29 15 254 rfl) (by decide +kernel)
theorem dX7_noWay_45 : decode cX7_noWay 45 = .ok (.invokevirtual 89, 3) := o_182 (bg_dX7_noWay_29 16 182 rfl) (bg_dX7_noWay_29 17 0 rfl) (bg_dX7_noWay_29 18 89 rfl)
theorem dX7_noWay_48 : decode cX7_noWay 48 = .ok (.ireturn, 1) := o_172 (bg_dX7_noWay_29 19 172 rfl)
theorem dX7_noWay_49 : decode cX7_noWay 49 = .ok (.aload_n 0, 1) := o_42 (bg_dX7_noWay_29 20 42 rfl)
theorem dX7_noWay_50 : decode cX7_noWay 50 = .ok (.getfield 7, 3) := o_180 (bg_dX7_noWay_29 21 180 rfl) (bg_dX7_noWay_29 22 0 rfl) (bg_dX7_noWay_29 23 7 rfl)
theorem dX7_noWay_53 : decode cX7_noWay 53 = .ok (.iload 4, 2) := o_21 (bg_dX7_noWay_29 24 21 rfl) (bg_dX7_noWay_29 25 4 rfl)
theorem dX7_noWay_55 : decode cX7_noWay 55 = .ok (.iaload, 1) := o_46 (bg_dX7_noWay_29 26 46 rfl)
theorem bg_dX7_noWay_56 : bysAt cX7_noWay 56 [5, 160, 0, 10, 42, 16, 253, 182, 0, 89, 172, 42, 180, 0, 7, 21, 4, 46, 154, 0, 10, 42, 16, 252, 182, 0, 89] := bysAt_of (by decide +kernel)
theorem dX7_noWay_56 : decode cX7_noWay 56 = .ok (.iconst 2, 1) := o_5 (bg_dX7_noWay_56 0 5 rfl)
theorem dX7_noWay_57 : decode cX7_noWay 57 = .ok (.if_icmp .ne 10, 3) := o_160 (bg_dX7_noWay_56 1 160 rfl) (bg_dX7_noWay_56 2 0 rfl) (bg_dX7_noWay_56 3 10 rfl) (by decide +kernel)
theorem dX7_noWay_60 : decode cX7_noWay 60 = .ok (.aload_n 0, 1) := o_42 (bg_dX7_noWay_56 4 42 rfl)
theorem dX7_noWay_61 : decode cX7_noWay 61 = .ok (.bipush (-3), 2) := o_16 (bg_dX7_noWay_56 5 16 rfl) (bg_dX7_noWay_56 6 253 rfl) (by decide +kernel)
theorem dX7_noWay_63 : decode cX7_noWay 63 = .ok (.invokevirtual 89, 3) := o_182 (bg_dX7_noWay_56 7 182 rfl) (bg_dX7_noWay_56 8 0 rfl) (bg_dX7_noWay_56 9 89 rfl)
theorem dX7_noWay_66 : decode cX7_noWay 66 = .ok (.ireturn, 1) := o_172 (bg_dX7_noWay_56 10 172 rfl)
theorem dX7_noWay_67 : decode cX7_noWay 67 = .ok (.aload_n 0, 1) := o_42 (bg_dX7_noWay_56 11 42 rfl)
theorem dX7_noWay_68 : decode cX7_noWay 68 = .ok (.getfield 7, 3) := o_180 (bg_dX7_noWay_56 12 180 rfl) (bg_dX7_noWay_56 13 0 rfl) (bg_dX7_noWay_56 14 7 rfl)
theorem dX7_noWay_71 : decode cX7_noWay 71 = .ok (.iload 4, 2) := o_21 (bg_dX7_noWay_56 15 21 rfl) (bg_dX7_noWay_56 16 4 rfl)
theorem dX7_noWay_73 : decode cX7_noWay 73 = .ok (.iaload, 1) := o_46 (bg_dX7_noWay_56 17 46 rfl)
theorem dX7_noWay_74 : decode cX7_noWay 74 = .ok (.ifCond .ne 10, 3) := o_154 (bg_dX7_noWay_56 18 154 rfl) (bg_dX7_noWay_56 19 0 rfl) (bg_dX7_noWay_56 20 10 rfl) (by decide +kernel)
theorem dX7_noWay_77 : decode cX7_noWay 77 = .ok (.aload_n 0, 1) := o_42 (bg_dX7_noWay_56 21 42 rfl)
theorem dX7_noWay_78 : decode cX7_noWay 78 = .ok (.bipush (-4), 2) := o_16 (bg_dX7_noWay_56 22 16 rfl) (bg_dX7_noWay_56 23 252 rfl) (by decide +kernel)
theorem dX7_noWay_80 : decode cX7_noWay 80 = .ok (.invokevirtual 89, 3) := o_182 (bg_dX7_noWay_56 24 182 rfl) (bg_dX7_noWay_56 25 0 rfl) (bg_dX7_noWay_56 26 89 rfl)
theorem bg_dX7_noWay_83 : bysAt cX7_noWay 83 [172, 42, 180, 0, 16, 21, 4, 46, 21, 5, 162, 0, 12, 42, 16, 254, 182, 0, 89, 167, 0, 4, 3, 172] := bysAt_of (by decide +kernel)
theorem dX7_noWay_83 : decode cX7_noWay 83 = .ok (.ireturn, 1) := o_172 (bg_dX7_noWay_83 0 172 rfl)
theorem dX7_noWay_84 : decode cX7_noWay 84 = .ok (.aload_n 0, 1) := o_42 (bg_dX7_noWay_83 1 42 rfl)
theorem dX7_noWay_85 : decode cX7_noWay 85 = .ok (.getfield 16, 3) := o_180 (bg_dX7_noWay_83 2 180 rfl) (bg_dX7_noWay_83 3 0 rfl) (bg_dX7_noWay_83 4 16 rfl)
theorem dX7_noWay_88 : decode cX7_noWay 88 = .ok (.iload 4, 2) := o_21 (bg_dX7_noWay_83 5 21 rfl) (bg_dX7_noWay_83 6 4 rfl)
theorem dX7_noWay_90 : decode cX7_noWay 90 = .ok (.iaload, 1) := o_46 (bg_dX7_noWay_83 7 46 rfl)
theorem dX7_noWay_91 : decode cX7_noWay 91 = .ok (.iload 5, 2) := o_21 (bg_dX7_noWay_83 8 21 rfl) (bg_dX7_noWay_83 9 5 rfl)
theorem dX7_noWay_93 : decode cX7_noWay 93 = .ok (.if_icmp .ge 12, 3) := o_162 (bg_dX7_noWay_83 10 162 rfl) (bg_dX7_noWay_83 11 0 rfl) (bg_dX7_noWay_83 12 12 rfl) (by decide +kernel)
theorem dX7_noWay_96 : decode cX7_noWay 96 = .ok (.aload_n 0, 1) := o_42 (bg_dX7_noWay_83 13 42 rfl)
theorem dX7_noWay_97 : decode cX7_noWay 97 = .ok (.bipush (-2), 2) := o_16 (bg_dX7_noWay_83 14 16 rfl) (bg_dX7_noWay_83 15 254 rfl) (by decide +kernel)
theorem dX7_noWay_99 : decode cX7_noWay 99 = .ok (.invokevirtual 89, 3) := o_182 (bg_dX7_noWay_83 16 182 rfl) (bg_dX7_noWay_83 17 0 rfl) (bg_dX7_noWay_83 18 89 rfl)
theorem dX7_noWay_102 : decode cX7_noWay 102 = .ok (.goto 4, 3) := o_167 (bg_dX7_noWay_83 19 167 rfl) (bg_dX7_noWay_83 20 0 rfl) (bg_dX7_noWay_83 21 4 rfl) (by decide +kernel)
theorem dX7_noWay_105 : decode cX7_noWay 105 = .ok (.iconst 0, 1) := o_3 (bg_dX7_noWay_83 22 3 rfl)
theorem dX7_noWay_106 : decode cX7_noWay 106 = .ok (.ireturn, 1) := o_172 (bg_dX7_noWay_83 23 172 rfl)
theorem bg_dX7_reach_0 : bysAt cX7_reach 0 [42, 27, 28, 182, 1, 4, 153, 0, 10, 29, 184, 0, 113, 154, 0, 10, 42, 16, 254, 182, 0, 89, 172, 42, 27] := bysAt_of (by decide +kernel)
theorem dX7_reach_0 : decode cX7_reach 0 = .ok (.aload_n 0, 1) := o_42 (bg_dX7_reach_0 0 42 rfl)
theorem dX7_reach_1 : decode cX7_reach 1 = .ok (.iload_n 1, 1) := o_27 (bg_dX7_reach_0 1 27 rfl)
theorem dX7_reach_2 : decode cX7_reach 2 = .ok (.iload_n 2, 1) := o_28 (bg_dX7_reach_0 2 28 rfl)
theorem dX7_reach_3 : decode cX7_reach 3 = .ok (.invokevirtual 260, 3) := o_182 (bg_dX7_reach_0 3 182 rfl) (bg_dX7_reach_0 4 1 rfl) (bg_dX7_reach_0 5 4 rfl)
theorem dX7_reach_6 : decode cX7_reach 6 = .ok (.ifCond .eq 10, 3) := o_153 (bg_dX7_reach_0 6 153 rfl) (bg_dX7_reach_0 7 0 rfl) (bg_dX7_reach_0 8 10 rfl) (by decide +kernel)
theorem dX7_reach_9 : decode cX7_reach 9 = .ok (.iload_n 3, 1) := o_29 (bg_dX7_reach_0 9 29 rfl)
theorem dX7_reach_10 : decode cX7_reach 10 = .ok (.invokestatic 113, 3) := o_184 (bg_dX7_reach_0 10 184 rfl) (bg_dX7_reach_0 11 0 rfl) (bg_dX7_reach_0 12 113 rfl)
theorem dX7_reach_13 : decode cX7_reach 13 = .ok (.ifCond .ne 10, 3) := o_154 (bg_dX7_reach_0 13 154 rfl) (bg_dX7_reach_0 14 0 rfl) (bg_dX7_reach_0 15 10 rfl) (by decide +kernel)
theorem dX7_reach_16 : decode cX7_reach 16 = .ok (.aload_n 0, 1) := o_42 (bg_dX7_reach_0 16 42 rfl)
theorem dX7_reach_17 : decode cX7_reach 17 = .ok (.bipush (-2), 2) := o_16 (bg_dX7_reach_0 17 16 rfl) (bg_dX7_reach_0 18 254 rfl) (by decide +kernel)
theorem dX7_reach_19 : decode cX7_reach 19 = .ok (.invokevirtual 89, 3) := o_182 (bg_dX7_reach_0 19 182 rfl) (bg_dX7_reach_0 20 0 rfl) (bg_dX7_reach_0 21 89 rfl)
theorem dX7_reach_22 : decode cX7_reach 22 = .ok (.ireturn, 1) := o_172 (bg_dX7_reach_0 22 172 rfl)
theorem dX7_reach_23 : decode cX7_reach 23 = .ok (.aload_n 0, 1) := o_42 (bg_dX7_reach_0 23 42 rfl)
theorem dX7_reach_24 : decode cX7_reach 24 = .ok (.iload_n 1, 1) := o_27 (bg_dX7_reach_0 24 27 rfl)
theorem bg_dX7_reach_25 : bysAt cX7_reach 25 [28, 29, 4, 182, 1, 38, 3, 54, 4, 3, 54, 5, 21, 5, 16, 16, 162, 0, 36, 21, 4, 42, 180, 0, 57] := bysAt_of (by decide +kernel)
theorem dX7_reach_25 : decode cX7_reach 25 = .ok (.iload_n 2, 1) := o_28 (bg_dX7_reach_25 0 28 rfl)
theorem dX7_reach_26 : decode cX7_reach 26 = .ok (.iload_n 3, 1) := o_29 (bg_dX7_reach_25 1 29 rfl)
theorem dX7_reach_27 : decode cX7_reach 27 = .ok (.iconst 1, 1) := o_4 (bg_dX7_reach_25 2 4 rfl)
theorem dX7_reach_28 : decode cX7_reach 28 = .ok (.invokevirtual 294, 3) := o_182 (bg_dX7_reach_25 3 182 rfl) (bg_dX7_reach_25 4 1 rfl) (bg_dX7_reach_25 5 38 rfl)
theorem dX7_reach_31 : decode cX7_reach 31 = .ok (.iconst 0, 1) := o_3 (bg_dX7_reach_25 6 3 rfl)
theorem dX7_reach_32 : decode cX7_reach 32 = .ok (.istore 4, 2) := o_54 (bg_dX7_reach_25 7 54 rfl) (bg_dX7_reach_25 8 4 rfl)
theorem dX7_reach_34 : decode cX7_reach 34 = .ok (.iconst 0, 1) := o_3 (bg_dX7_reach_25 9 3 rfl)
theorem dX7_reach_35 : decode cX7_reach 35 = .ok (.istore 5, 2) := o_54 (bg_dX7_reach_25 10 54 rfl) (bg_dX7_reach_25 11 5 rfl)
theorem dX7_reach_37 : decode cX7_reach 37 = .ok (.iload 5, 2) := o_21 (bg_dX7_reach_25 12 21 rfl) (bg_dX7_reach_25 13 5 rfl)
theorem dX7_reach_39 : decode cX7_reach 39 = .ok (.bipush 16, 2) := o_16 (bg_dX7_reach_25 14 16 rfl) (bg_dX7_reach_25 15 16 rfl) (by decide +kernel)
theorem dX7_reach_41 : decode cX7_reach 41 = .ok (.if_icmp .ge 36, 3) := o_162 (bg_dX7_reach_25 16 162 rfl) (bg_dX7_reach_25 17 0 rfl) (bg_dX7_reach_25 18 36 rfl) (by decide +kernel)
theorem dX7_reach_44 : decode cX7_reach 44 = .ok (.iload 4, 2) := o_21 (bg_dX7_reach_25 19 21 rfl) (bg_dX7_reach_25 20 4 rfl)
theorem dX7_reach_46 : decode cX7_reach 46 = .ok (.aload_n 0, 1) := o_42 (bg_dX7_reach_25 21 42 rfl)
theorem dX7_reach_47 : decode cX7_reach 47 = .ok (.getfield 57, 3) := o_180 (bg_dX7_reach_25 22 180 rfl) (bg_dX7_reach_25 23 0 rfl) (bg_dX7_reach_25 24 57 rfl)
theorem bg_dX7_reach_50 : bysAt cX7_reach 50 [21, 5, 47, 20, 1, 36, 148, 156, 0, 10, 4, 21, 5, 120, 167, 0, 4, 3, 128, 54, 4, 132, 5, 1, 167, 255, 219, 21, 4] := bysAt_of (by decide +kernel)
theorem dX7_reach_50 : decode cX7_reach 50 = .ok (.iload 5, 2) := o_21 (bg_dX7_reach_50 0 21 rfl) (bg_dX7_reach_50 1 5 rfl)
theorem dX7_reach_52 : decode cX7_reach 52 = .ok (.laload, 1) := o_47 (bg_dX7_reach_50 2 47 rfl)
theorem dX7_reach_53 : decode cX7_reach 53 = .ok (.ldc2_w 292, 3) := o_20 (bg_dX7_reach_50 3 20 rfl) (bg_dX7_reach_50 4 1 rfl) (bg_dX7_reach_50 5 36 rfl)
theorem dX7_reach_56 : decode cX7_reach 56 = .ok (.lcmp, 1) := o_148 (bg_dX7_reach_50 6 148 rfl)
theorem dX7_reach_57 : decode cX7_reach 57 = .ok (.ifCond .ge 10, 3) := o_156 (bg_dX7_reach_50 7 156 rfl) (bg_dX7_reach_50 8 0 rfl) (bg_dX7_reach_50 9 10 rfl) (by decide +kernel)
theorem dX7_reach_60 : decode cX7_reach 60 = .ok (.iconst 1, 1) := o_4 (bg_dX7_reach_50 10 4 rfl)
theorem dX7_reach_61 : decode cX7_reach 61 = .ok (.iload 5, 2) := o_21 (bg_dX7_reach_50 11 21 rfl) (bg_dX7_reach_50 12 5 rfl)
theorem dX7_reach_63 : decode cX7_reach 63 = .ok (.ishl, 1) := o_120 (bg_dX7_reach_50 13 120 rfl)
theorem dX7_reach_64 : decode cX7_reach 64 = .ok (.goto 4, 3) := o_167 (bg_dX7_reach_50 14 167 rfl) (bg_dX7_reach_50 15 0 rfl) (bg_dX7_reach_50 16 4 rfl) (by decide +kernel)
theorem dX7_reach_67 : decode cX7_reach 67 = .ok (.iconst 0, 1) := o_3 (bg_dX7_reach_50 17 3 rfl)
theorem dX7_reach_68 : decode cX7_reach 68 = .ok (.ior, 1) := o_128 (bg_dX7_reach_50 18 128 rfl)
theorem dX7_reach_69 : decode cX7_reach 69 = .ok (.istore 4, 2) := o_54 (bg_dX7_reach_50 19 54 rfl) (bg_dX7_reach_50 20 4 rfl)
theorem dX7_reach_74 : decode cX7_reach 74 = .ok (.goto (-37), 3) := o_167 (bg_dX7_reach_50 24 167 rfl) (bg_dX7_reach_50 25 255 rfl) (bg_dX7_reach_50 26 219 rfl) (by decide +kernel)
theorem dX7_reach_77 : decode cX7_reach 77 = .ok (.iload 4, 2) := o_21 (bg_dX7_reach_50 27 21 rfl) (bg_dX7_reach_50 28 4 rfl)
theorem bg_dX7_reach_79 : bysAt cX7_reach 79 [172] := bysAt_of (by decide +kernel)
theorem dX7_reach_79 : decode cX7_reach 79 = .ok (.ireturn, 1) := o_172 (bg_dX7_reach_79 0 172 rfl)
theorem bg_dX7_soonest_0 : bysAt cX7_soonest 0 [42, 27, 28, 182, 1, 4, 153, 0, 18, 29, 184, 0, 113, 153, 0, 11, 21, 4, 184, 0, 113, 154, 0, 10, 42, 16, 254, 182, 0, 89] := bysAt_of (by decide +kernel)
theorem dX7_soonest_0 : decode cX7_soonest 0 = .ok (.aload_n 0, 1) := o_42 (bg_dX7_soonest_0 0 42 rfl)
theorem dX7_soonest_1 : decode cX7_soonest 1 = .ok (.iload_n 1, 1) := o_27 (bg_dX7_soonest_0 1 27 rfl)
theorem dX7_soonest_2 : decode cX7_soonest 2 = .ok (.iload_n 2, 1) := o_28 (bg_dX7_soonest_0 2 28 rfl)
theorem dX7_soonest_3 : decode cX7_soonest 3 = .ok (.invokevirtual 260, 3) := o_182 (bg_dX7_soonest_0 3 182 rfl) (bg_dX7_soonest_0 4 1 rfl) (bg_dX7_soonest_0 5 4 rfl)
theorem dX7_soonest_6 : decode cX7_soonest 6 = .ok (.ifCond .eq 18, 3) := o_153 (bg_dX7_soonest_0 6 153 rfl) (bg_dX7_soonest_0 7 0 rfl) (bg_dX7_soonest_0 8 18 rfl) (by decide +kernel)
theorem dX7_soonest_9 : decode cX7_soonest 9 = .ok (.iload_n 3, 1) := o_29 (bg_dX7_soonest_0 9 29 rfl)
theorem dX7_soonest_10 : decode cX7_soonest 10 = .ok (.invokestatic 113, 3) := o_184 (bg_dX7_soonest_0 10 184 rfl) (bg_dX7_soonest_0 11 0 rfl) (bg_dX7_soonest_0 12 113 rfl)
theorem dX7_soonest_13 : decode cX7_soonest 13 = .ok (.ifCond .eq 11, 3) := o_153 (bg_dX7_soonest_0 13 153 rfl) (bg_dX7_soonest_0 14 0 rfl) (bg_dX7_soonest_0 15 11 rfl) (by decide +kernel)
theorem dX7_soonest_16 : decode cX7_soonest 16 = .ok (.iload 4, 2) := o_21 (bg_dX7_soonest_0 16 21 rfl) (bg_dX7_soonest_0 17 4 rfl)
theorem dX7_soonest_18 : decode cX7_soonest 18 = .ok (.invokestatic 113, 3) := o_184 (bg_dX7_soonest_0 18 184 rfl) (bg_dX7_soonest_0 19 0 rfl) (bg_dX7_soonest_0 20 113 rfl)
theorem dX7_soonest_21 : decode cX7_soonest 21 = .ok (.ifCond .ne 10, 3) := o_154 (bg_dX7_soonest_0 21 154 rfl) (bg_dX7_soonest_0 22 0 rfl) (bg_dX7_soonest_0 23 10 rfl) (by decide +kernel)
theorem dX7_soonest_24 : decode cX7_soonest 24 = .ok (.aload_n 0, 1) := o_42 (bg_dX7_soonest_0 24 42 rfl)
theorem dX7_soonest_25 : decode cX7_soonest 25 = .ok (.bipush (-2), 2) := o_16 (bg_dX7_soonest_0 25 16 rfl) (bg_dX7_soonest_0 26 254 rfl) (by decide +kernel)
theorem dX7_soonest_27 : decode cX7_soonest 27 = .ok (.invokevirtual 89, 3) := o_182 (bg_dX7_soonest_0 27 182 rfl) (bg_dX7_soonest_0 28 0 rfl) (bg_dX7_soonest_0 29 89 rfl)
theorem bg_dX7_soonest_30 : bysAt cX7_soonest 30 [172, 42, 27, 28, 21, 4, 3, 182, 1, 38, 42, 180, 0, 57, 29, 47, 20, 1, 36, 148, 155, 0, 12] := bysAt_of (by decide +kernel)
theorem dX7_soonest_30 : decode cX7_soonest 30 = .ok (.ireturn, 1) := o_172 (bg_dX7_soonest_30 0 172 rfl)
theorem dX7_soonest_31 : decode cX7_soonest 31 = .ok (.aload_n 0, 1) := o_42 (bg_dX7_soonest_30 1 42 rfl)
theorem dX7_soonest_32 : decode cX7_soonest 32 = .ok (.iload_n 1, 1) := o_27 (bg_dX7_soonest_30 2 27 rfl)
theorem dX7_soonest_33 : decode cX7_soonest 33 = .ok (.iload_n 2, 1) := o_28 (bg_dX7_soonest_30 3 28 rfl)
theorem dX7_soonest_34 : decode cX7_soonest 34 = .ok (.iload 4, 2) := o_21 (bg_dX7_soonest_30 4 21 rfl) (bg_dX7_soonest_30 5 4 rfl)
theorem dX7_soonest_36 : decode cX7_soonest 36 = .ok (.iconst 0, 1) := o_3 (bg_dX7_soonest_30 6 3 rfl)
theorem dX7_soonest_37 : decode cX7_soonest 37 = .ok (.invokevirtual 294, 3) := o_182 (bg_dX7_soonest_30 7 182 rfl) (bg_dX7_soonest_30 8 1 rfl) (bg_dX7_soonest_30 9 38 rfl)
theorem dX7_soonest_40 : decode cX7_soonest 40 = .ok (.aload_n 0, 1) := o_42 (bg_dX7_soonest_30 10 42 rfl)
theorem dX7_soonest_41 : decode cX7_soonest 41 = .ok (.getfield 57, 3) := o_180 (bg_dX7_soonest_30 11 180 rfl) (bg_dX7_soonest_30 12 0 rfl) (bg_dX7_soonest_30 13 57 rfl)
theorem dX7_soonest_44 : decode cX7_soonest 44 = .ok (.iload_n 3, 1) := o_29 (bg_dX7_soonest_30 14 29 rfl)
theorem dX7_soonest_45 : decode cX7_soonest 45 = .ok (.laload, 1) := o_47 (bg_dX7_soonest_30 15 47 rfl)
theorem dX7_soonest_46 : decode cX7_soonest 46 = .ok (.ldc2_w 292, 3) := o_20 (bg_dX7_soonest_30 16 20 rfl) (bg_dX7_soonest_30 17 1 rfl) (bg_dX7_soonest_30 18 36 rfl)
theorem dX7_soonest_49 : decode cX7_soonest 49 = .ok (.lcmp, 1) := o_148 (bg_dX7_soonest_30 19 148 rfl)
theorem dX7_soonest_50 : decode cX7_soonest 50 = .ok (.ifCond .lt 12, 3) := o_155 (bg_dX7_soonest_30 20 155 rfl) (bg_dX7_soonest_30 21 0 rfl) (bg_dX7_soonest_30 22 12 rfl) (by decide +kernel)
theorem bg_dX7_soonest_53 : bysAt cX7_soonest 53 [42, 16, 251, 182, 0, 89, 167, 0, 10, 42, 180, 0, 57, 29, 47, 136, 172] := bysAt_of (by decide +kernel)
theorem dX7_soonest_53 : decode cX7_soonest 53 = .ok (.aload_n 0, 1) := o_42 (bg_dX7_soonest_53 0 42 rfl)
theorem dX7_soonest_54 : decode cX7_soonest 54 = .ok (.bipush (-5), 2) := o_16 (bg_dX7_soonest_53 1 16 rfl) (bg_dX7_soonest_53 2 251 rfl) (by decide +kernel)
theorem dX7_soonest_56 : decode cX7_soonest 56 = .ok (.invokevirtual 89, 3) := o_182 (bg_dX7_soonest_53 3 182 rfl) (bg_dX7_soonest_53 4 0 rfl) (bg_dX7_soonest_53 5 89 rfl)
theorem dX7_soonest_59 : decode cX7_soonest 59 = .ok (.goto 10, 3) := o_167 (bg_dX7_soonest_53 6 167 rfl) (bg_dX7_soonest_53 7 0 rfl) (bg_dX7_soonest_53 8 10 rfl) (by decide +kernel)
theorem dX7_soonest_62 : decode cX7_soonest 62 = .ok (.aload_n 0, 1) := o_42 (bg_dX7_soonest_53 9 42 rfl)
theorem dX7_soonest_63 : decode cX7_soonest 63 = .ok (.getfield 57, 3) := o_180 (bg_dX7_soonest_53 10 180 rfl) (bg_dX7_soonest_53 11 0 rfl) (bg_dX7_soonest_53 12 57 rfl)
theorem dX7_soonest_66 : decode cX7_soonest 66 = .ok (.iload_n 3, 1) := o_29 (bg_dX7_soonest_53 13 29 rfl)
theorem dX7_soonest_67 : decode cX7_soonest 67 = .ok (.laload, 1) := o_47 (bg_dX7_soonest_53 14 47 rfl)
theorem dX7_soonest_68 : decode cX7_soonest 68 = .ok (.l2i, 1) := o_136 (bg_dX7_soonest_53 15 136 rfl)
theorem dX7_soonest_69 : decode cX7_soonest 69 = .ok (.ireturn, 1) := o_172 (bg_dX7_soonest_53 16 172 rfl)
theorem bg_dX7_status_0 : bysAt cX7_status 0 [3, 61, 27] := bysAt_of (by decide +kernel)
theorem dX7_status_0 : decode cX7_status 0 = .ok (.iconst 0, 1) := o_3 (bg_dX7_status_0 0 3 rfl)
theorem dX7_status_1 : decode cX7_status 1 = .ok (.istore_n 2, 1) := o_61 (bg_dX7_status_0 1 61 rfl)
theorem dX7_status_2 : decode cX7_status 2 = .ok (.iload_n 1, 1) := o_27 (bg_dX7_status_0 2 27 rfl)
theorem bg_dX7_status_48 : bysAt cX7_status 48 [42, 180, 0, 66, 172, 42, 180, 0, 70, 172, 42, 180, 0, 73, 172, 42, 180, 0, 80, 172, 42, 180, 0, 140] := bysAt_of (by decide +kernel)
theorem dX7_status_48 : decode cX7_status 48 = .ok (.aload_n 0, 1) := o_42 (bg_dX7_status_48 0 42 rfl)
theorem dX7_status_49 : decode cX7_status 49 = .ok (.getfield 66, 3) := o_180 (bg_dX7_status_48 1 180 rfl) (bg_dX7_status_48 2 0 rfl) (bg_dX7_status_48 3 66 rfl)
theorem dX7_status_52 : decode cX7_status 52 = .ok (.ireturn, 1) := o_172 (bg_dX7_status_48 4 172 rfl)
theorem dX7_status_53 : decode cX7_status 53 = .ok (.aload_n 0, 1) := o_42 (bg_dX7_status_48 5 42 rfl)
theorem dX7_status_54 : decode cX7_status 54 = .ok (.getfield 70, 3) := o_180 (bg_dX7_status_48 6 180 rfl) (bg_dX7_status_48 7 0 rfl) (bg_dX7_status_48 8 70 rfl)
theorem dX7_status_57 : decode cX7_status 57 = .ok (.ireturn, 1) := o_172 (bg_dX7_status_48 9 172 rfl)
theorem dX7_status_58 : decode cX7_status 58 = .ok (.aload_n 0, 1) := o_42 (bg_dX7_status_48 10 42 rfl)
theorem dX7_status_59 : decode cX7_status 59 = .ok (.getfield 73, 3) := o_180 (bg_dX7_status_48 11 180 rfl) (bg_dX7_status_48 12 0 rfl) (bg_dX7_status_48 13 73 rfl)
theorem dX7_status_62 : decode cX7_status 62 = .ok (.ireturn, 1) := o_172 (bg_dX7_status_48 14 172 rfl)
theorem dX7_status_63 : decode cX7_status 63 = .ok (.aload_n 0, 1) := o_42 (bg_dX7_status_48 15 42 rfl)
theorem dX7_status_64 : decode cX7_status 64 = .ok (.getfield 80, 3) := o_180 (bg_dX7_status_48 16 180 rfl) (bg_dX7_status_48 17 0 rfl) (bg_dX7_status_48 18 80 rfl)
theorem dX7_status_67 : decode cX7_status 67 = .ok (.ireturn, 1) := o_172 (bg_dX7_status_48 19 172 rfl)
theorem dX7_status_68 : decode cX7_status 68 = .ok (.aload_n 0, 1) := o_42 (bg_dX7_status_48 20 42 rfl)
theorem dX7_status_69 : decode cX7_status 69 = .ok (.getfield 140, 3) := o_180 (bg_dX7_status_48 21 180 rfl) (bg_dX7_status_48 22 0 rfl) (bg_dX7_status_48 23 140 rfl)
theorem bg_dX7_status_72 : bysAt cX7_status 72 [172, 3, 62, 29, 16, 8, 162, 0, 26, 28, 42, 180, 0, 7, 29, 46, 153, 0, 7, 4, 167, 0, 4] := bysAt_of (by decide +kernel)
theorem dX7_status_72 : decode cX7_status 72 = .ok (.ireturn, 1) := o_172 (bg_dX7_status_72 0 172 rfl)
theorem dX7_status_73 : decode cX7_status 73 = .ok (.iconst 0, 1) := o_3 (bg_dX7_status_72 1 3 rfl)
theorem dX7_status_74 : decode cX7_status 74 = .ok (.istore_n 3, 1) := o_62 (bg_dX7_status_72 2 62 rfl)
theorem dX7_status_75 : decode cX7_status 75 = .ok (.iload_n 3, 1) := o_29 (bg_dX7_status_72 3 29 rfl)
theorem dX7_status_76 : decode cX7_status 76 = .ok (.bipush 8, 2) := o_16 (bg_dX7_status_72 4 16 rfl) (bg_dX7_status_72 5 8 rfl) (by decide +kernel)
theorem dX7_status_78 : decode cX7_status 78 = .ok (.if_icmp .ge 26, 3) := o_162 (bg_dX7_status_72 6 162 rfl) (bg_dX7_status_72 7 0 rfl) (bg_dX7_status_72 8 26 rfl) (by decide +kernel)
theorem dX7_status_81 : decode cX7_status 81 = .ok (.iload_n 2, 1) := o_28 (bg_dX7_status_72 9 28 rfl)
theorem dX7_status_82 : decode cX7_status 82 = .ok (.aload_n 0, 1) := o_42 (bg_dX7_status_72 10 42 rfl)
theorem dX7_status_83 : decode cX7_status 83 = .ok (.getfield 7, 3) := o_180 (bg_dX7_status_72 11 180 rfl) (bg_dX7_status_72 12 0 rfl) (bg_dX7_status_72 13 7 rfl)
theorem dX7_status_86 : decode cX7_status 86 = .ok (.iload_n 3, 1) := o_29 (bg_dX7_status_72 14 29 rfl)
theorem dX7_status_87 : decode cX7_status 87 = .ok (.iaload, 1) := o_46 (bg_dX7_status_72 15 46 rfl)
theorem dX7_status_88 : decode cX7_status 88 = .ok (.ifCond .eq 7, 3) := o_153 (bg_dX7_status_72 16 153 rfl) (bg_dX7_status_72 17 0 rfl) (bg_dX7_status_72 18 7 rfl) (by decide +kernel)
theorem dX7_status_91 : decode cX7_status 91 = .ok (.iconst 1, 1) := o_4 (bg_dX7_status_72 19 4 rfl)
theorem dX7_status_92 : decode cX7_status 92 = .ok (.goto 4, 3) := o_167 (bg_dX7_status_72 20 167 rfl) (bg_dX7_status_72 21 0 rfl) (bg_dX7_status_72 22 4 rfl) (by decide +kernel)
theorem bg_dX7_status_95 : bysAt cX7_status 95 [3, 96, 61, 132, 3, 1, 167, 255, 230, 28, 172, 3, 62, 29, 42, 180, 0, 70, 162, 0, 22, 28, 42] := bysAt_of (by decide +kernel)
theorem dX7_status_95 : decode cX7_status 95 = .ok (.iconst 0, 1) := o_3 (bg_dX7_status_95 0 3 rfl)
theorem dX7_status_96 : decode cX7_status 96 = .ok (.iadd, 1) := o_96 (bg_dX7_status_95 1 96 rfl)
theorem dX7_status_97 : decode cX7_status 97 = .ok (.istore_n 2, 1) := o_61 (bg_dX7_status_95 2 61 rfl)
theorem dX7_status_101 : decode cX7_status 101 = .ok (.goto (-26), 3) := o_167 (bg_dX7_status_95 6 167 rfl) (bg_dX7_status_95 7 255 rfl) (bg_dX7_status_95 8 230 rfl) (by decide +kernel)
theorem dX7_status_104 : decode cX7_status 104 = .ok (.iload_n 2, 1) := o_28 (bg_dX7_status_95 9 28 rfl)
theorem dX7_status_105 : decode cX7_status 105 = .ok (.ireturn, 1) := o_172 (bg_dX7_status_95 10 172 rfl)
theorem dX7_status_106 : decode cX7_status 106 = .ok (.iconst 0, 1) := o_3 (bg_dX7_status_95 11 3 rfl)
theorem dX7_status_107 : decode cX7_status 107 = .ok (.istore_n 3, 1) := o_62 (bg_dX7_status_95 12 62 rfl)
theorem dX7_status_108 : decode cX7_status 108 = .ok (.iload_n 3, 1) := o_29 (bg_dX7_status_95 13 29 rfl)
theorem dX7_status_109 : decode cX7_status 109 = .ok (.aload_n 0, 1) := o_42 (bg_dX7_status_95 14 42 rfl)
theorem dX7_status_110 : decode cX7_status 110 = .ok (.getfield 70, 3) := o_180 (bg_dX7_status_95 15 180 rfl) (bg_dX7_status_95 16 0 rfl) (bg_dX7_status_95 17 70 rfl)
theorem dX7_status_113 : decode cX7_status 113 = .ok (.if_icmp .ge 22, 3) := o_162 (bg_dX7_status_95 18 162 rfl) (bg_dX7_status_95 19 0 rfl) (bg_dX7_status_95 20 22 rfl) (by decide +kernel)
theorem dX7_status_116 : decode cX7_status 116 = .ok (.iload_n 2, 1) := o_28 (bg_dX7_status_95 21 28 rfl)
theorem dX7_status_117 : decode cX7_status 117 = .ok (.aload_n 0, 1) := o_42 (bg_dX7_status_95 22 42 rfl)
theorem bg_dX7_status_118 : bysAt cX7_status 118 [180, 0, 42, 29, 50, 27, 4, 96, 46, 96, 61, 132, 3, 1, 167, 255, 232, 28, 172, 27, 133] := bysAt_of (by decide +kernel)
theorem dX7_status_118 : decode cX7_status 118 = .ok (.getfield 42, 3) := o_180 (bg_dX7_status_118 0 180 rfl) (bg_dX7_status_118 1 0 rfl) (bg_dX7_status_118 2 42 rfl)
theorem dX7_status_121 : decode cX7_status 121 = .ok (.iload_n 3, 1) := o_29 (bg_dX7_status_118 3 29 rfl)
theorem dX7_status_122 : decode cX7_status 122 = .ok (.aaload, 1) := o_50 (bg_dX7_status_118 4 50 rfl)
theorem dX7_status_123 : decode cX7_status 123 = .ok (.iload_n 1, 1) := o_27 (bg_dX7_status_118 5 27 rfl)
theorem dX7_status_124 : decode cX7_status 124 = .ok (.iconst 1, 1) := o_4 (bg_dX7_status_118 6 4 rfl)
theorem dX7_status_125 : decode cX7_status 125 = .ok (.iadd, 1) := o_96 (bg_dX7_status_118 7 96 rfl)
theorem dX7_status_126 : decode cX7_status 126 = .ok (.iaload, 1) := o_46 (bg_dX7_status_118 8 46 rfl)
theorem dX7_status_127 : decode cX7_status 127 = .ok (.iadd, 1) := o_96 (bg_dX7_status_118 9 96 rfl)
theorem dX7_status_128 : decode cX7_status 128 = .ok (.istore_n 2, 1) := o_61 (bg_dX7_status_118 10 61 rfl)
theorem dX7_status_132 : decode cX7_status 132 = .ok (.goto (-24), 3) := o_167 (bg_dX7_status_118 14 167 rfl) (bg_dX7_status_118 15 255 rfl) (bg_dX7_status_118 16 232 rfl) (by decide +kernel)
theorem dX7_status_135 : decode cX7_status 135 = .ok (.iload_n 2, 1) := o_28 (bg_dX7_status_118 17 28 rfl)
theorem dX7_status_136 : decode cX7_status 136 = .ok (.ireturn, 1) := o_172 (bg_dX7_status_118 18 172 rfl)
theorem dX7_status_137 : decode cX7_status 137 = .ok (.iload_n 1, 1) := o_27 (bg_dX7_status_118 19 27 rfl)
theorem dX7_status_138 : decode cX7_status 138 = .ok (.i2l, 1) := o_133 (bg_dX7_status_118 20 133 rfl)
theorem bg_dX7_status_139 : bysAt cX7_status 139 [20, 0, 136, 20, 1, 88, 184, 0, 62, 153, 0, 15, 42, 180, 0, 34, 27, 16, 10, 100, 46, 167, 0, 4, 2, 172] := bysAt_of (by decide +kernel)
theorem dX7_status_139 : decode cX7_status 139 = .ok (.ldc2_w 136, 3) := o_20 (bg_dX7_status_139 0 20 rfl) (bg_dX7_status_139 1 0 rfl) (bg_dX7_status_139 2 136 rfl)
theorem dX7_status_142 : decode cX7_status 142 = .ok (.ldc2_w 344, 3) := o_20 (bg_dX7_status_139 3 20 rfl) (bg_dX7_status_139 4 1 rfl) (bg_dX7_status_139 5 88 rfl)
theorem dX7_status_145 : decode cX7_status 145 = .ok (.invokestatic 62, 3) := o_184 (bg_dX7_status_139 6 184 rfl) (bg_dX7_status_139 7 0 rfl) (bg_dX7_status_139 8 62 rfl)
theorem dX7_status_148 : decode cX7_status 148 = .ok (.ifCond .eq 15, 3) := o_153 (bg_dX7_status_139 9 153 rfl) (bg_dX7_status_139 10 0 rfl) (bg_dX7_status_139 11 15 rfl) (by decide +kernel)
theorem dX7_status_151 : decode cX7_status 151 = .ok (.aload_n 0, 1) := o_42 (bg_dX7_status_139 12 42 rfl)
theorem dX7_status_152 : decode cX7_status 152 = .ok (.getfield 34, 3) := o_180 (bg_dX7_status_139 13 180 rfl) (bg_dX7_status_139 14 0 rfl) (bg_dX7_status_139 15 34 rfl)
theorem dX7_status_155 : decode cX7_status 155 = .ok (.iload_n 1, 1) := o_27 (bg_dX7_status_139 16 27 rfl)
theorem dX7_status_156 : decode cX7_status 156 = .ok (.bipush 10, 2) := o_16 (bg_dX7_status_139 17 16 rfl) (bg_dX7_status_139 18 10 rfl) (by decide +kernel)
theorem dX7_status_158 : decode cX7_status 158 = .ok (.isub, 1) := o_100 (bg_dX7_status_139 19 100 rfl)
theorem dX7_status_159 : decode cX7_status 159 = .ok (.iaload, 1) := o_46 (bg_dX7_status_139 20 46 rfl)
theorem dX7_status_160 : decode cX7_status 160 = .ok (.goto 4, 3) := o_167 (bg_dX7_status_139 21 167 rfl) (bg_dX7_status_139 22 0 rfl) (bg_dX7_status_139 23 4 rfl) (by decide +kernel)
theorem dX7_status_163 : decode cX7_status 163 = .ok (.iconst (-1), 1) := o_2 (bg_dX7_status_139 24 2 rfl)
theorem dX7_status_164 : decode cX7_status 164 = .ok (.ireturn, 1) := o_172 (bg_dX7_status_139 25 172 rfl)
theorem bg_dX7_step_0 : bysAt cX7_step 0 [42, 180, 0, 54, 3, 46, 153, 0, 18, 42, 180, 0, 54, 6, 46, 42, 180, 0, 54, 7, 46, 160, 0, 10] := bysAt_of (by decide +kernel)
theorem dX7_step_0 : decode cX7_step 0 = .ok (.aload_n 0, 1) := o_42 (bg_dX7_step_0 0 42 rfl)
theorem dX7_step_1 : decode cX7_step 1 = .ok (.getfield 54, 3) := o_180 (bg_dX7_step_0 1 180 rfl) (bg_dX7_step_0 2 0 rfl) (bg_dX7_step_0 3 54 rfl)
theorem dX7_step_4 : decode cX7_step 4 = .ok (.iconst 0, 1) := o_3 (bg_dX7_step_0 4 3 rfl)
theorem dX7_step_5 : decode cX7_step 5 = .ok (.iaload, 1) := o_46 (bg_dX7_step_0 5 46 rfl)
theorem dX7_step_6 : decode cX7_step 6 = .ok (.ifCond .eq 18, 3) := o_153 (bg_dX7_step_0 6 153 rfl) (bg_dX7_step_0 7 0 rfl) (bg_dX7_step_0 8 18 rfl) (by decide +kernel)
theorem dX7_step_9 : decode cX7_step 9 = .ok (.aload_n 0, 1) := o_42 (bg_dX7_step_0 9 42 rfl)
theorem dX7_step_10 : decode cX7_step 10 = .ok (.getfield 54, 3) := o_180 (bg_dX7_step_0 10 180 rfl) (bg_dX7_step_0 11 0 rfl) (bg_dX7_step_0 12 54 rfl)
theorem dX7_step_13 : decode cX7_step 13 = .ok (.iconst 3, 1) := o_6 (bg_dX7_step_0 13 6 rfl)
theorem dX7_step_14 : decode cX7_step 14 = .ok (.iaload, 1) := o_46 (bg_dX7_step_0 14 46 rfl)
theorem dX7_step_15 : decode cX7_step 15 = .ok (.aload_n 0, 1) := o_42 (bg_dX7_step_0 15 42 rfl)
theorem dX7_step_16 : decode cX7_step 16 = .ok (.getfield 54, 3) := o_180 (bg_dX7_step_0 16 180 rfl) (bg_dX7_step_0 17 0 rfl) (bg_dX7_step_0 18 54 rfl)
theorem dX7_step_19 : decode cX7_step 19 = .ok (.iconst 4, 1) := o_7 (bg_dX7_step_0 19 7 rfl)
theorem dX7_step_20 : decode cX7_step 20 = .ok (.iaload, 1) := o_46 (bg_dX7_step_0 20 46 rfl)
theorem dX7_step_21 : decode cX7_step 21 = .ok (.if_icmp .ne 10, 3) := o_160 (bg_dX7_step_0 21 160 rfl) (bg_dX7_step_0 22 0 rfl) (bg_dX7_step_0 23 10 rfl) (by decide +kernel)
theorem bg_dX7_step_24 : bysAt cX7_step 24 [42, 16, 251, 182, 0, 89, 172, 42, 180, 0, 54, 4, 46, 60, 42, 180, 0, 54, 5, 46, 61] := bysAt_of (by decide +kernel)
theorem dX7_step_24 : decode cX7_step 24 = .ok (.aload_n 0, 1) := o_42 (bg_dX7_step_24 0 42 rfl)
theorem dX7_step_25 : decode cX7_step 25 = .ok (.bipush (-5), 2) := o_16 (bg_dX7_step_24 1 16 rfl) (bg_dX7_step_24 2 251 rfl) (by decide +kernel)
theorem dX7_step_27 : decode cX7_step 27 = .ok (.invokevirtual 89, 3) := o_182 (bg_dX7_step_24 3 182 rfl) (bg_dX7_step_24 4 0 rfl) (bg_dX7_step_24 5 89 rfl)
theorem dX7_step_30 : decode cX7_step 30 = .ok (.ireturn, 1) := o_172 (bg_dX7_step_24 6 172 rfl)
theorem dX7_step_31 : decode cX7_step 31 = .ok (.aload_n 0, 1) := o_42 (bg_dX7_step_24 7 42 rfl)
theorem dX7_step_32 : decode cX7_step 32 = .ok (.getfield 54, 3) := o_180 (bg_dX7_step_24 8 180 rfl) (bg_dX7_step_24 9 0 rfl) (bg_dX7_step_24 10 54 rfl)
theorem dX7_step_35 : decode cX7_step 35 = .ok (.iconst 1, 1) := o_4 (bg_dX7_step_24 11 4 rfl)
theorem dX7_step_36 : decode cX7_step 36 = .ok (.iaload, 1) := o_46 (bg_dX7_step_24 12 46 rfl)
theorem dX7_step_37 : decode cX7_step 37 = .ok (.istore_n 1, 1) := o_60 (bg_dX7_step_24 13 60 rfl)
theorem dX7_step_38 : decode cX7_step 38 = .ok (.aload_n 0, 1) := o_42 (bg_dX7_step_24 14 42 rfl)
theorem dX7_step_39 : decode cX7_step 39 = .ok (.getfield 54, 3) := o_180 (bg_dX7_step_24 15 180 rfl) (bg_dX7_step_24 16 0 rfl) (bg_dX7_step_24 17 54 rfl)
theorem dX7_step_42 : decode cX7_step 42 = .ok (.iconst 2, 1) := o_5 (bg_dX7_step_24 18 5 rfl)
theorem dX7_step_43 : decode cX7_step 43 = .ok (.iaload, 1) := o_46 (bg_dX7_step_24 19 46 rfl)
theorem dX7_step_44 : decode cX7_step 44 = .ok (.istore_n 2, 1) := o_61 (bg_dX7_step_24 20 61 rfl)
theorem bg_dX7_step_45 : bysAt cX7_step 45 [42, 27, 28, 42, 180, 0, 54, 7, 46, 4, 182, 1, 38, 3, 62, 29, 42, 180, 0, 66] := bysAt_of (by decide +kernel)
theorem dX7_step_45 : decode cX7_step 45 = .ok (.aload_n 0, 1) := o_42 (bg_dX7_step_45 0 42 rfl)
theorem dX7_step_46 : decode cX7_step 46 = .ok (.iload_n 1, 1) := o_27 (bg_dX7_step_45 1 27 rfl)
theorem dX7_step_47 : decode cX7_step 47 = .ok (.iload_n 2, 1) := o_28 (bg_dX7_step_45 2 28 rfl)
theorem dX7_step_48 : decode cX7_step 48 = .ok (.aload_n 0, 1) := o_42 (bg_dX7_step_45 3 42 rfl)
theorem dX7_step_49 : decode cX7_step 49 = .ok (.getfield 54, 3) := o_180 (bg_dX7_step_45 4 180 rfl) (bg_dX7_step_45 5 0 rfl) (bg_dX7_step_45 6 54 rfl)
theorem dX7_step_52 : decode cX7_step 52 = .ok (.iconst 4, 1) := o_7 (bg_dX7_step_45 7 7 rfl)
theorem dX7_step_53 : decode cX7_step 53 = .ok (.iaload, 1) := o_46 (bg_dX7_step_45 8 46 rfl)
theorem dX7_step_54 : decode cX7_step 54 = .ok (.iconst 1, 1) := o_4 (bg_dX7_step_45 9 4 rfl)
theorem dX7_step_55 : decode cX7_step 55 = .ok (.invokevirtual 294, 3) := o_182 (bg_dX7_step_45 10 182 rfl) (bg_dX7_step_45 11 1 rfl) (bg_dX7_step_45 12 38 rfl)
theorem dX7_step_58 : decode cX7_step 58 = .ok (.iconst 0, 1) := o_3 (bg_dX7_step_45 13 3 rfl)
theorem dX7_step_59 : decode cX7_step 59 = .ok (.istore_n 3, 1) := o_62 (bg_dX7_step_45 14 62 rfl)
theorem dX7_step_60 : decode cX7_step 60 = .ok (.iload_n 3, 1) := o_29 (bg_dX7_step_45 15 29 rfl)
theorem dX7_step_61 : decode cX7_step 61 = .ok (.aload_n 0, 1) := o_42 (bg_dX7_step_45 16 42 rfl)
theorem dX7_step_62 : decode cX7_step 62 = .ok (.getfield 66, 3) := o_180 (bg_dX7_step_45 17 180 rfl) (bg_dX7_step_45 18 0 rfl) (bg_dX7_step_45 19 66 rfl)
theorem bg_dX7_step_65 : bysAt cX7_step 65 [162, 1, 5, 42, 180, 0, 57, 42, 180, 0, 54, 6, 46, 47, 20, 1, 36, 148, 156, 0, 243, 42, 180, 0, 39, 29] := bysAt_of (by decide +kernel)
theorem dX7_step_65 : decode cX7_step 65 = .ok (.if_icmp .ge 261, 3) := o_162 (bg_dX7_step_65 0 162 rfl) (bg_dX7_step_65 1 1 rfl) (bg_dX7_step_65 2 5 rfl) (by decide +kernel)
theorem dX7_step_68 : decode cX7_step 68 = .ok (.aload_n 0, 1) := o_42 (bg_dX7_step_65 3 42 rfl)
theorem dX7_step_69 : decode cX7_step 69 = .ok (.getfield 57, 3) := o_180 (bg_dX7_step_65 4 180 rfl) (bg_dX7_step_65 5 0 rfl) (bg_dX7_step_65 6 57 rfl)
theorem dX7_step_72 : decode cX7_step 72 = .ok (.aload_n 0, 1) := o_42 (bg_dX7_step_65 7 42 rfl)
theorem dX7_step_73 : decode cX7_step 73 = .ok (.getfield 54, 3) := o_180 (bg_dX7_step_65 8 180 rfl) (bg_dX7_step_65 9 0 rfl) (bg_dX7_step_65 10 54 rfl)
theorem dX7_step_76 : decode cX7_step 76 = .ok (.iconst 3, 1) := o_6 (bg_dX7_step_65 11 6 rfl)
theorem dX7_step_77 : decode cX7_step 77 = .ok (.iaload, 1) := o_46 (bg_dX7_step_65 12 46 rfl)
theorem dX7_step_78 : decode cX7_step 78 = .ok (.laload, 1) := o_47 (bg_dX7_step_65 13 47 rfl)
theorem dX7_step_79 : decode cX7_step 79 = .ok (.ldc2_w 292, 3) := o_20 (bg_dX7_step_65 14 20 rfl) (bg_dX7_step_65 15 1 rfl) (bg_dX7_step_65 16 36 rfl)
theorem dX7_step_82 : decode cX7_step 82 = .ok (.lcmp, 1) := o_148 (bg_dX7_step_65 17 148 rfl)
theorem dX7_step_83 : decode cX7_step 83 = .ok (.ifCond .ge 243, 3) := o_156 (bg_dX7_step_65 18 156 rfl) (bg_dX7_step_65 19 0 rfl) (bg_dX7_step_65 20 243 rfl) (by decide +kernel)
theorem dX7_step_86 : decode cX7_step 86 = .ok (.aload_n 0, 1) := o_42 (bg_dX7_step_65 21 42 rfl)
theorem dX7_step_87 : decode cX7_step 87 = .ok (.getfield 39, 3) := o_180 (bg_dX7_step_65 22 180 rfl) (bg_dX7_step_65 23 0 rfl) (bg_dX7_step_65 24 39 rfl)
theorem dX7_step_90 : decode cX7_step 90 = .ok (.iload_n 3, 1) := o_29 (bg_dX7_step_65 25 29 rfl)
theorem bg_dX7_step_91 : bysAt cX7_step 91 [50, 3, 46, 42, 180, 0, 54, 6, 46, 159, 0, 20, 42, 180, 0, 39, 29, 50, 4, 46] := bysAt_of (by decide +kernel)
theorem dX7_step_91 : decode cX7_step 91 = .ok (.aaload, 1) := o_50 (bg_dX7_step_91 0 50 rfl)
theorem dX7_step_92 : decode cX7_step 92 = .ok (.iconst 0, 1) := o_3 (bg_dX7_step_91 1 3 rfl)
theorem dX7_step_93 : decode cX7_step 93 = .ok (.iaload, 1) := o_46 (bg_dX7_step_91 2 46 rfl)
theorem dX7_step_94 : decode cX7_step 94 = .ok (.aload_n 0, 1) := o_42 (bg_dX7_step_91 3 42 rfl)
theorem dX7_step_95 : decode cX7_step 95 = .ok (.getfield 54, 3) := o_180 (bg_dX7_step_91 4 180 rfl) (bg_dX7_step_91 5 0 rfl) (bg_dX7_step_91 6 54 rfl)
theorem dX7_step_98 : decode cX7_step 98 = .ok (.iconst 3, 1) := o_6 (bg_dX7_step_91 7 6 rfl)
theorem dX7_step_99 : decode cX7_step 99 = .ok (.iaload, 1) := o_46 (bg_dX7_step_91 8 46 rfl)
theorem dX7_step_100 : decode cX7_step 100 = .ok (.if_icmp .eq 20, 3) := o_159 (bg_dX7_step_91 9 159 rfl) (bg_dX7_step_91 10 0 rfl) (bg_dX7_step_91 11 20 rfl) (by decide +kernel)
theorem dX7_step_103 : decode cX7_step 103 = .ok (.aload_n 0, 1) := o_42 (bg_dX7_step_91 12 42 rfl)
theorem dX7_step_104 : decode cX7_step 104 = .ok (.getfield 39, 3) := o_180 (bg_dX7_step_91 13 180 rfl) (bg_dX7_step_91 14 0 rfl) (bg_dX7_step_91 15 39 rfl)
theorem dX7_step_107 : decode cX7_step 107 = .ok (.iload_n 3, 1) := o_29 (bg_dX7_step_91 16 29 rfl)
theorem dX7_step_108 : decode cX7_step 108 = .ok (.aaload, 1) := o_50 (bg_dX7_step_91 17 50 rfl)
theorem dX7_step_109 : decode cX7_step 109 = .ok (.iconst 1, 1) := o_4 (bg_dX7_step_91 18 4 rfl)
theorem dX7_step_110 : decode cX7_step 110 = .ok (.iaload, 1) := o_46 (bg_dX7_step_91 19 46 rfl)
theorem bg_dX7_step_111 : bysAt cX7_step 111 [42, 180, 0, 54, 6, 46, 160, 0, 7, 4, 167, 0, 4, 3, 54, 4, 42, 180, 0, 39, 29, 50, 3] := bysAt_of (by decide +kernel)
theorem dX7_step_111 : decode cX7_step 111 = .ok (.aload_n 0, 1) := o_42 (bg_dX7_step_111 0 42 rfl)
theorem dX7_step_112 : decode cX7_step 112 = .ok (.getfield 54, 3) := o_180 (bg_dX7_step_111 1 180 rfl) (bg_dX7_step_111 2 0 rfl) (bg_dX7_step_111 3 54 rfl)
theorem dX7_step_115 : decode cX7_step 115 = .ok (.iconst 3, 1) := o_6 (bg_dX7_step_111 4 6 rfl)
theorem dX7_step_116 : decode cX7_step 116 = .ok (.iaload, 1) := o_46 (bg_dX7_step_111 5 46 rfl)
theorem dX7_step_117 : decode cX7_step 117 = .ok (.if_icmp .ne 7, 3) := o_160 (bg_dX7_step_111 6 160 rfl) (bg_dX7_step_111 7 0 rfl) (bg_dX7_step_111 8 7 rfl) (by decide +kernel)
theorem dX7_step_120 : decode cX7_step 120 = .ok (.iconst 1, 1) := o_4 (bg_dX7_step_111 9 4 rfl)
theorem dX7_step_121 : decode cX7_step 121 = .ok (.goto 4, 3) := o_167 (bg_dX7_step_111 10 167 rfl) (bg_dX7_step_111 11 0 rfl) (bg_dX7_step_111 12 4 rfl) (by decide +kernel)
theorem dX7_step_124 : decode cX7_step 124 = .ok (.iconst 0, 1) := o_3 (bg_dX7_step_111 13 3 rfl)
theorem dX7_step_125 : decode cX7_step 125 = .ok (.istore 4, 2) := o_54 (bg_dX7_step_111 14 54 rfl) (bg_dX7_step_111 15 4 rfl)
theorem dX7_step_127 : decode cX7_step 127 = .ok (.aload_n 0, 1) := o_42 (bg_dX7_step_111 16 42 rfl)
theorem dX7_step_128 : decode cX7_step 128 = .ok (.getfield 39, 3) := o_180 (bg_dX7_step_111 17 180 rfl) (bg_dX7_step_111 18 0 rfl) (bg_dX7_step_111 19 39 rfl)
theorem dX7_step_131 : decode cX7_step 131 = .ok (.iload_n 3, 1) := o_29 (bg_dX7_step_111 20 29 rfl)
theorem dX7_step_132 : decode cX7_step 132 = .ok (.aaload, 1) := o_50 (bg_dX7_step_111 21 50 rfl)
theorem dX7_step_133 : decode cX7_step 133 = .ok (.iconst 0, 1) := o_3 (bg_dX7_step_111 22 3 rfl)
theorem bg_dX7_step_134 : bysAt cX7_step 134 [46, 42, 180, 0, 54, 6, 46, 160, 0, 14, 42, 180, 0, 39, 29, 50, 4, 46, 167, 0, 11, 42] := bysAt_of (by decide +kernel)
theorem dX7_step_134 : decode cX7_step 134 = .ok (.iaload, 1) := o_46 (bg_dX7_step_134 0 46 rfl)
theorem dX7_step_135 : decode cX7_step 135 = .ok (.aload_n 0, 1) := o_42 (bg_dX7_step_134 1 42 rfl)
theorem dX7_step_136 : decode cX7_step 136 = .ok (.getfield 54, 3) := o_180 (bg_dX7_step_134 2 180 rfl) (bg_dX7_step_134 3 0 rfl) (bg_dX7_step_134 4 54 rfl)
theorem dX7_step_139 : decode cX7_step 139 = .ok (.iconst 3, 1) := o_6 (bg_dX7_step_134 5 6 rfl)
theorem dX7_step_140 : decode cX7_step 140 = .ok (.iaload, 1) := o_46 (bg_dX7_step_134 6 46 rfl)
theorem dX7_step_141 : decode cX7_step 141 = .ok (.if_icmp .ne 14, 3) := o_160 (bg_dX7_step_134 7 160 rfl) (bg_dX7_step_134 8 0 rfl) (bg_dX7_step_134 9 14 rfl) (by decide +kernel)
theorem dX7_step_144 : decode cX7_step 144 = .ok (.aload_n 0, 1) := o_42 (bg_dX7_step_134 10 42 rfl)
theorem dX7_step_145 : decode cX7_step 145 = .ok (.getfield 39, 3) := o_180 (bg_dX7_step_134 11 180 rfl) (bg_dX7_step_134 12 0 rfl) (bg_dX7_step_134 13 39 rfl)
theorem dX7_step_148 : decode cX7_step 148 = .ok (.iload_n 3, 1) := o_29 (bg_dX7_step_134 14 29 rfl)
theorem dX7_step_149 : decode cX7_step 149 = .ok (.aaload, 1) := o_50 (bg_dX7_step_134 15 50 rfl)
theorem dX7_step_150 : decode cX7_step 150 = .ok (.iconst 1, 1) := o_4 (bg_dX7_step_134 16 4 rfl)
theorem dX7_step_151 : decode cX7_step 151 = .ok (.iaload, 1) := o_46 (bg_dX7_step_134 17 46 rfl)
theorem dX7_step_152 : decode cX7_step 152 = .ok (.goto 11, 3) := o_167 (bg_dX7_step_134 18 167 rfl) (bg_dX7_step_134 19 0 rfl) (bg_dX7_step_134 20 11 rfl) (by decide +kernel)
theorem dX7_step_155 : decode cX7_step 155 = .ok (.aload_n 0, 1) := o_42 (bg_dX7_step_134 21 42 rfl)
theorem bg_dX7_step_156 : bysAt cX7_step 156 [180, 0, 39, 29, 50, 3, 46, 54, 5, 21, 4, 153, 0, 153, 42, 27, 28, 29, 182, 1, 25, 153, 0, 143] := bysAt_of (by decide +kernel)
theorem dX7_step_156 : decode cX7_step 156 = .ok (.getfield 39, 3) := o_180 (bg_dX7_step_156 0 180 rfl) (bg_dX7_step_156 1 0 rfl) (bg_dX7_step_156 2 39 rfl)
theorem dX7_step_159 : decode cX7_step 159 = .ok (.iload_n 3, 1) := o_29 (bg_dX7_step_156 3 29 rfl)
theorem dX7_step_160 : decode cX7_step 160 = .ok (.aaload, 1) := o_50 (bg_dX7_step_156 4 50 rfl)
theorem dX7_step_161 : decode cX7_step 161 = .ok (.iconst 0, 1) := o_3 (bg_dX7_step_156 5 3 rfl)
theorem dX7_step_162 : decode cX7_step 162 = .ok (.iaload, 1) := o_46 (bg_dX7_step_156 6 46 rfl)
theorem dX7_step_163 : decode cX7_step 163 = .ok (.istore 5, 2) := o_54 (bg_dX7_step_156 7 54 rfl) (bg_dX7_step_156 8 5 rfl)
theorem dX7_step_165 : decode cX7_step 165 = .ok (.iload 4, 2) := o_21 (bg_dX7_step_156 9 21 rfl) (bg_dX7_step_156 10 4 rfl)
theorem dX7_step_167 : decode cX7_step 167 = .ok (.ifCond .eq 153, 3) := o_153 (bg_dX7_step_156 11 153 rfl) (bg_dX7_step_156 12 0 rfl) (bg_dX7_step_156 13 153 rfl) (by decide +kernel)
theorem dX7_step_170 : decode cX7_step 170 = .ok (.aload_n 0, 1) := o_42 (bg_dX7_step_156 14 42 rfl)
theorem dX7_step_171 : decode cX7_step 171 = .ok (.iload_n 1, 1) := o_27 (bg_dX7_step_156 15 27 rfl)
theorem dX7_step_172 : decode cX7_step 172 = .ok (.iload_n 2, 1) := o_28 (bg_dX7_step_156 16 28 rfl)
theorem dX7_step_173 : decode cX7_step 173 = .ok (.iload_n 3, 1) := o_29 (bg_dX7_step_156 17 29 rfl)
theorem dX7_step_174 : decode cX7_step 174 = .ok (.invokevirtual 281, 3) := o_182 (bg_dX7_step_156 18 182 rfl) (bg_dX7_step_156 19 1 rfl) (bg_dX7_step_156 20 25 rfl)
theorem dX7_step_177 : decode cX7_step 177 = .ok (.ifCond .eq 143, 3) := o_153 (bg_dX7_step_156 21 153 rfl) (bg_dX7_step_156 22 0 rfl) (bg_dX7_step_156 23 143 rfl) (by decide +kernel)
theorem bg_dX7_step_180 : bysAt cX7_step 180 [42, 27, 28, 29, 4, 182, 1, 29, 133, 42, 180, 0, 57, 21, 5, 47, 97, 42, 180, 0, 57] := bysAt_of (by decide +kernel)
theorem dX7_step_180 : decode cX7_step 180 = .ok (.aload_n 0, 1) := o_42 (bg_dX7_step_180 0 42 rfl)
theorem dX7_step_181 : decode cX7_step 181 = .ok (.iload_n 1, 1) := o_27 (bg_dX7_step_180 1 27 rfl)
theorem dX7_step_182 : decode cX7_step 182 = .ok (.iload_n 2, 1) := o_28 (bg_dX7_step_180 2 28 rfl)
theorem dX7_step_183 : decode cX7_step 183 = .ok (.iload_n 3, 1) := o_29 (bg_dX7_step_180 3 29 rfl)
theorem dX7_step_184 : decode cX7_step 184 = .ok (.iconst 1, 1) := o_4 (bg_dX7_step_180 4 4 rfl)
theorem dX7_step_185 : decode cX7_step 185 = .ok (.invokevirtual 285, 3) := o_182 (bg_dX7_step_180 5 182 rfl) (bg_dX7_step_180 6 1 rfl) (bg_dX7_step_180 7 29 rfl)
theorem dX7_step_188 : decode cX7_step 188 = .ok (.i2l, 1) := o_133 (bg_dX7_step_180 8 133 rfl)
theorem dX7_step_189 : decode cX7_step 189 = .ok (.aload_n 0, 1) := o_42 (bg_dX7_step_180 9 42 rfl)
theorem dX7_step_190 : decode cX7_step 190 = .ok (.getfield 57, 3) := o_180 (bg_dX7_step_180 10 180 rfl) (bg_dX7_step_180 11 0 rfl) (bg_dX7_step_180 12 57 rfl)
theorem dX7_step_193 : decode cX7_step 193 = .ok (.iload 5, 2) := o_21 (bg_dX7_step_180 13 21 rfl) (bg_dX7_step_180 14 5 rfl)
theorem dX7_step_195 : decode cX7_step 195 = .ok (.laload, 1) := o_47 (bg_dX7_step_180 15 47 rfl)
theorem dX7_step_196 : decode cX7_step 196 = .ok (.ladd, 1) := o_97 (bg_dX7_step_180 16 97 rfl)
theorem dX7_step_197 : decode cX7_step 197 = .ok (.aload_n 0, 1) := o_42 (bg_dX7_step_180 17 42 rfl)
theorem dX7_step_198 : decode cX7_step 198 = .ok (.getfield 57, 3) := o_180 (bg_dX7_step_180 18 180 rfl) (bg_dX7_step_180 19 0 rfl) (bg_dX7_step_180 20 57 rfl)
theorem bg_dX7_step_201 : bysAt cX7_step 201 [42, 180, 0, 54, 6, 46, 47, 148, 154, 0, 111, 42, 89, 180, 1, 68, 42, 27, 28, 29] := bysAt_of (by decide +kernel)
theorem dX7_step_201 : decode cX7_step 201 = .ok (.aload_n 0, 1) := o_42 (bg_dX7_step_201 0 42 rfl)
theorem dX7_step_202 : decode cX7_step 202 = .ok (.getfield 54, 3) := o_180 (bg_dX7_step_201 1 180 rfl) (bg_dX7_step_201 2 0 rfl) (bg_dX7_step_201 3 54 rfl)
theorem dX7_step_205 : decode cX7_step 205 = .ok (.iconst 3, 1) := o_6 (bg_dX7_step_201 4 6 rfl)
theorem dX7_step_206 : decode cX7_step 206 = .ok (.iaload, 1) := o_46 (bg_dX7_step_201 5 46 rfl)
theorem dX7_step_207 : decode cX7_step 207 = .ok (.laload, 1) := o_47 (bg_dX7_step_201 6 47 rfl)
theorem dX7_step_208 : decode cX7_step 208 = .ok (.lcmp, 1) := o_148 (bg_dX7_step_201 7 148 rfl)
theorem dX7_step_209 : decode cX7_step 209 = .ok (.ifCond .ne 111, 3) := o_154 (bg_dX7_step_201 8 154 rfl) (bg_dX7_step_201 9 0 rfl) (bg_dX7_step_201 10 111 rfl) (by decide +kernel)
theorem dX7_step_212 : decode cX7_step 212 = .ok (.aload_n 0, 1) := o_42 (bg_dX7_step_201 11 42 rfl)
theorem dX7_step_213 : decode cX7_step 213 = .ok (.dup, 1) := o_89 (bg_dX7_step_201 12 89 rfl)
theorem dX7_step_214 : decode cX7_step 214 = .ok (.getfield 324, 3) := o_180 (bg_dX7_step_201 13 180 rfl) (bg_dX7_step_201 14 1 rfl) (bg_dX7_step_201 15 68 rfl)
theorem dX7_step_217 : decode cX7_step 217 = .ok (.aload_n 0, 1) := o_42 (bg_dX7_step_201 16 42 rfl)
theorem dX7_step_218 : decode cX7_step 218 = .ok (.iload_n 1, 1) := o_27 (bg_dX7_step_201 17 27 rfl)
theorem dX7_step_219 : decode cX7_step 219 = .ok (.iload_n 2, 1) := o_28 (bg_dX7_step_201 18 28 rfl)
theorem dX7_step_220 : decode cX7_step 220 = .ok (.iload_n 3, 1) := o_29 (bg_dX7_step_201 19 29 rfl)
theorem bg_dX7_step_221 : bysAt cX7_step 221 [4, 182, 1, 29, 96, 181, 1, 68, 42, 180, 0, 54, 8, 92, 46, 42, 27, 28, 29, 182, 1, 33] := bysAt_of (by decide +kernel)
theorem dX7_step_221 : decode cX7_step 221 = .ok (.iconst 1, 1) := o_4 (bg_dX7_step_221 0 4 rfl)
theorem dX7_step_222 : decode cX7_step 222 = .ok (.invokevirtual 285, 3) := o_182 (bg_dX7_step_221 1 182 rfl) (bg_dX7_step_221 2 1 rfl) (bg_dX7_step_221 3 29 rfl)
theorem dX7_step_225 : decode cX7_step 225 = .ok (.iadd, 1) := o_96 (bg_dX7_step_221 4 96 rfl)
theorem dX7_step_226 : decode cX7_step 226 = .ok (.putfield 324, 3) := o_181 (bg_dX7_step_221 5 181 rfl) (bg_dX7_step_221 6 1 rfl) (bg_dX7_step_221 7 68 rfl)
theorem dX7_step_229 : decode cX7_step 229 = .ok (.aload_n 0, 1) := o_42 (bg_dX7_step_221 8 42 rfl)
theorem dX7_step_230 : decode cX7_step 230 = .ok (.getfield 54, 3) := o_180 (bg_dX7_step_221 9 180 rfl) (bg_dX7_step_221 10 0 rfl) (bg_dX7_step_221 11 54 rfl)
theorem dX7_step_233 : decode cX7_step 233 = .ok (.iconst 5, 1) := o_8 (bg_dX7_step_221 12 8 rfl)
theorem dX7_step_234 : decode cX7_step 234 = .ok (.dup2, 1) := o_92 (bg_dX7_step_221 13 92 rfl)
theorem dX7_step_235 : decode cX7_step 235 = .ok (.iaload, 1) := o_46 (bg_dX7_step_221 14 46 rfl)
theorem dX7_step_236 : decode cX7_step 236 = .ok (.aload_n 0, 1) := o_42 (bg_dX7_step_221 15 42 rfl)
theorem dX7_step_237 : decode cX7_step 237 = .ok (.iload_n 1, 1) := o_27 (bg_dX7_step_221 16 27 rfl)
theorem dX7_step_238 : decode cX7_step 238 = .ok (.iload_n 2, 1) := o_28 (bg_dX7_step_221 17 28 rfl)
theorem dX7_step_239 : decode cX7_step 239 = .ok (.iload_n 3, 1) := o_29 (bg_dX7_step_221 18 29 rfl)
theorem dX7_step_240 : decode cX7_step 240 = .ok (.invokevirtual 289, 3) := o_182 (bg_dX7_step_221 19 182 rfl) (bg_dX7_step_221 20 1 rfl) (bg_dX7_step_221 21 33 rfl)
theorem bg_dX7_step_243 : bysAt cX7_step 243 [96, 79, 42, 180, 0, 54, 16, 6, 92, 46, 4, 96, 79, 42, 180, 0, 54, 6, 21, 5] := bysAt_of (by decide +kernel)
theorem dX7_step_243 : decode cX7_step 243 = .ok (.iadd, 1) := o_96 (bg_dX7_step_243 0 96 rfl)
theorem dX7_step_244 : decode cX7_step 244 = .ok (.iastore, 1) := o_79 (bg_dX7_step_243 1 79 rfl)
theorem dX7_step_245 : decode cX7_step 245 = .ok (.aload_n 0, 1) := o_42 (bg_dX7_step_243 2 42 rfl)
theorem dX7_step_246 : decode cX7_step 246 = .ok (.getfield 54, 3) := o_180 (bg_dX7_step_243 3 180 rfl) (bg_dX7_step_243 4 0 rfl) (bg_dX7_step_243 5 54 rfl)
theorem dX7_step_249 : decode cX7_step 249 = .ok (.bipush 6, 2) := o_16 (bg_dX7_step_243 6 16 rfl) (bg_dX7_step_243 7 6 rfl) (by decide +kernel)
theorem dX7_step_251 : decode cX7_step 251 = .ok (.dup2, 1) := o_92 (bg_dX7_step_243 8 92 rfl)
theorem dX7_step_252 : decode cX7_step 252 = .ok (.iaload, 1) := o_46 (bg_dX7_step_243 9 46 rfl)
theorem dX7_step_253 : decode cX7_step 253 = .ok (.iconst 1, 1) := o_4 (bg_dX7_step_243 10 4 rfl)
theorem dX7_step_254 : decode cX7_step 254 = .ok (.iadd, 1) := o_96 (bg_dX7_step_243 11 96 rfl)
theorem dX7_step_255 : decode cX7_step 255 = .ok (.iastore, 1) := o_79 (bg_dX7_step_243 12 79 rfl)
theorem dX7_step_256 : decode cX7_step 256 = .ok (.aload_n 0, 1) := o_42 (bg_dX7_step_243 13 42 rfl)
theorem dX7_step_257 : decode cX7_step 257 = .ok (.getfield 54, 3) := o_180 (bg_dX7_step_243 14 180 rfl) (bg_dX7_step_243 15 0 rfl) (bg_dX7_step_243 16 54 rfl)
theorem dX7_step_260 : decode cX7_step 260 = .ok (.iconst 3, 1) := o_6 (bg_dX7_step_243 17 6 rfl)
theorem dX7_step_261 : decode cX7_step 261 = .ok (.iload 5, 2) := o_21 (bg_dX7_step_243 18 21 rfl) (bg_dX7_step_243 19 5 rfl)
theorem bg_dX7_step_263 : bysAt cX7_step 263 [79, 3, 54, 6, 21, 6, 42, 180, 0, 70, 162, 0, 45, 42, 180, 0, 42, 21, 6, 50, 3, 46, 29] := bysAt_of (by decide +kernel)
theorem dX7_step_263 : decode cX7_step 263 = .ok (.iastore, 1) := o_79 (bg_dX7_step_263 0 79 rfl)
theorem dX7_step_264 : decode cX7_step 264 = .ok (.iconst 0, 1) := o_3 (bg_dX7_step_263 1 3 rfl)
theorem dX7_step_265 : decode cX7_step 265 = .ok (.istore 6, 2) := o_54 (bg_dX7_step_263 2 54 rfl) (bg_dX7_step_263 3 6 rfl)
theorem dX7_step_267 : decode cX7_step 267 = .ok (.iload 6, 2) := o_21 (bg_dX7_step_263 4 21 rfl) (bg_dX7_step_263 5 6 rfl)
theorem dX7_step_269 : decode cX7_step 269 = .ok (.aload_n 0, 1) := o_42 (bg_dX7_step_263 6 42 rfl)
theorem dX7_step_270 : decode cX7_step 270 = .ok (.getfield 70, 3) := o_180 (bg_dX7_step_263 7 180 rfl) (bg_dX7_step_263 8 0 rfl) (bg_dX7_step_263 9 70 rfl)
theorem dX7_step_273 : decode cX7_step 273 = .ok (.if_icmp .ge 45, 3) := o_162 (bg_dX7_step_263 10 162 rfl) (bg_dX7_step_263 11 0 rfl) (bg_dX7_step_263 12 45 rfl) (by decide +kernel)
theorem dX7_step_276 : decode cX7_step 276 = .ok (.aload_n 0, 1) := o_42 (bg_dX7_step_263 13 42 rfl)
theorem dX7_step_277 : decode cX7_step 277 = .ok (.getfield 42, 3) := o_180 (bg_dX7_step_263 14 180 rfl) (bg_dX7_step_263 15 0 rfl) (bg_dX7_step_263 16 42 rfl)
theorem dX7_step_280 : decode cX7_step 280 = .ok (.iload 6, 2) := o_21 (bg_dX7_step_263 17 21 rfl) (bg_dX7_step_263 18 6 rfl)
theorem dX7_step_282 : decode cX7_step 282 = .ok (.aaload, 1) := o_50 (bg_dX7_step_263 19 50 rfl)
theorem dX7_step_283 : decode cX7_step 283 = .ok (.iconst 0, 1) := o_3 (bg_dX7_step_263 20 3 rfl)
theorem dX7_step_284 : decode cX7_step 284 = .ok (.iaload, 1) := o_46 (bg_dX7_step_263 21 46 rfl)
theorem dX7_step_285 : decode cX7_step 285 = .ok (.iload_n 3, 1) := o_29 (bg_dX7_step_263 22 29 rfl)
theorem bg_dX7_step_286 : bysAt cX7_step 286 [160, 0, 26, 42, 27, 28, 21, 6, 182, 1, 15, 4, 160, 0, 14, 42, 180, 0, 42, 21, 6, 50, 16, 7, 4] := bysAt_of (by decide +kernel)
theorem dX7_step_286 : decode cX7_step 286 = .ok (.if_icmp .ne 26, 3) := o_160 (bg_dX7_step_286 0 160 rfl) (bg_dX7_step_286 1 0 rfl) (bg_dX7_step_286 2 26 rfl) (by decide +kernel)
theorem dX7_step_289 : decode cX7_step 289 = .ok (.aload_n 0, 1) := o_42 (bg_dX7_step_286 3 42 rfl)
theorem dX7_step_290 : decode cX7_step 290 = .ok (.iload_n 1, 1) := o_27 (bg_dX7_step_286 4 27 rfl)
theorem dX7_step_291 : decode cX7_step 291 = .ok (.iload_n 2, 1) := o_28 (bg_dX7_step_286 5 28 rfl)
theorem dX7_step_292 : decode cX7_step 292 = .ok (.iload 6, 2) := o_21 (bg_dX7_step_286 6 21 rfl) (bg_dX7_step_286 7 6 rfl)
theorem dX7_step_294 : decode cX7_step 294 = .ok (.invokevirtual 271, 3) := o_182 (bg_dX7_step_286 8 182 rfl) (bg_dX7_step_286 9 1 rfl) (bg_dX7_step_286 10 15 rfl)
theorem dX7_step_297 : decode cX7_step 297 = .ok (.iconst 1, 1) := o_4 (bg_dX7_step_286 11 4 rfl)
theorem dX7_step_298 : decode cX7_step 298 = .ok (.if_icmp .ne 14, 3) := o_160 (bg_dX7_step_286 12 160 rfl) (bg_dX7_step_286 13 0 rfl) (bg_dX7_step_286 14 14 rfl) (by decide +kernel)
theorem dX7_step_301 : decode cX7_step 301 = .ok (.aload_n 0, 1) := o_42 (bg_dX7_step_286 15 42 rfl)
theorem dX7_step_302 : decode cX7_step 302 = .ok (.getfield 42, 3) := o_180 (bg_dX7_step_286 16 180 rfl) (bg_dX7_step_286 17 0 rfl) (bg_dX7_step_286 18 42 rfl)
theorem dX7_step_305 : decode cX7_step 305 = .ok (.iload 6, 2) := o_21 (bg_dX7_step_286 19 21 rfl) (bg_dX7_step_286 20 6 rfl)
theorem dX7_step_307 : decode cX7_step 307 = .ok (.aaload, 1) := o_50 (bg_dX7_step_286 21 50 rfl)
theorem dX7_step_308 : decode cX7_step 308 = .ok (.bipush 7, 2) := o_16 (bg_dX7_step_286 22 16 rfl) (bg_dX7_step_286 23 7 rfl) (by decide +kernel)
theorem dX7_step_310 : decode cX7_step 310 = .ok (.iconst 1, 1) := o_4 (bg_dX7_step_286 24 4 rfl)
theorem bg_dX7_step_311 : bysAt cX7_step 311 [79, 132, 6, 1, 167, 255, 208, 29, 172, 132, 3, 1, 167, 254, 249, 42, 16, 251, 182, 0, 89, 172] := bysAt_of (by decide +kernel)
theorem dX7_step_311 : decode cX7_step 311 = .ok (.iastore, 1) := o_79 (bg_dX7_step_311 0 79 rfl)
theorem dX7_step_315 : decode cX7_step 315 = .ok (.goto (-48), 3) := o_167 (bg_dX7_step_311 4 167 rfl) (bg_dX7_step_311 5 255 rfl) (bg_dX7_step_311 6 208 rfl) (by decide +kernel)
theorem dX7_step_318 : decode cX7_step 318 = .ok (.iload_n 3, 1) := o_29 (bg_dX7_step_311 7 29 rfl)
theorem dX7_step_319 : decode cX7_step 319 = .ok (.ireturn, 1) := o_172 (bg_dX7_step_311 8 172 rfl)
theorem dX7_step_323 : decode cX7_step 323 = .ok (.goto (-263), 3) := o_167 (bg_dX7_step_311 12 167 rfl) (bg_dX7_step_311 13 254 rfl) (bg_dX7_step_311 14 249 rfl) (by decide +kernel)
theorem dX7_step_326 : decode cX7_step 326 = .ok (.aload_n 0, 1) := o_42 (bg_dX7_step_311 15 42 rfl)
theorem dX7_step_327 : decode cX7_step 327 = .ok (.bipush (-5), 2) := o_16 (bg_dX7_step_311 16 16 rfl) (bg_dX7_step_311 17 251 rfl) (by decide +kernel)
theorem dX7_step_329 : decode cX7_step 329 = .ok (.invokevirtual 89, 3) := o_182 (bg_dX7_step_311 18 182 rfl) (bg_dX7_step_311 19 0 rfl) (bg_dX7_step_311 20 89 rfl)
theorem dX7_step_332 : decode cX7_step 332 = .ok (.ireturn, 1) := o_172 (bg_dX7_step_311 21 172 rfl)
theorem bg_dX7_told__0 : bysAt cX7_told_ 0 [21, 6, 133, 9, 20, 1, 63, 184, 0, 62, 154, 0, 10, 42, 16, 254, 182, 0, 89, 172, 42, 27, 28, 29] := bysAt_of (by decide +kernel)
theorem dX7_told__0 : decode cX7_told_ 0 = .ok (.iload 6, 2) := o_21 (bg_dX7_told__0 0 21 rfl) (bg_dX7_told__0 1 6 rfl)
theorem dX7_told__2 : decode cX7_told_ 2 = .ok (.i2l, 1) := o_133 (bg_dX7_told__0 2 133 rfl)
theorem dX7_told__3 : decode cX7_told_ 3 = .ok (.lconst 0, 1) := o_9 (bg_dX7_told__0 3 9 rfl)
theorem dX7_told__4 : decode cX7_told_ 4 = .ok (.ldc2_w 319, 3) := o_20 (bg_dX7_told__0 4 20 rfl) (bg_dX7_told__0 5 1 rfl) (bg_dX7_told__0 6 63 rfl)
theorem dX7_told__7 : decode cX7_told_ 7 = .ok (.invokestatic 62, 3) := o_184 (bg_dX7_told__0 7 184 rfl) (bg_dX7_told__0 8 0 rfl) (bg_dX7_told__0 9 62 rfl)
theorem dX7_told__10 : decode cX7_told_ 10 = .ok (.ifCond .ne 10, 3) := o_154 (bg_dX7_told__0 10 154 rfl) (bg_dX7_told__0 11 0 rfl) (bg_dX7_told__0 12 10 rfl) (by decide +kernel)
theorem dX7_told__13 : decode cX7_told_ 13 = .ok (.aload_n 0, 1) := o_42 (bg_dX7_told__0 13 42 rfl)
theorem dX7_told__14 : decode cX7_told_ 14 = .ok (.bipush (-2), 2) := o_16 (bg_dX7_told__0 14 16 rfl) (bg_dX7_told__0 15 254 rfl) (by decide +kernel)
theorem dX7_told__16 : decode cX7_told_ 16 = .ok (.invokevirtual 89, 3) := o_182 (bg_dX7_told__0 16 182 rfl) (bg_dX7_told__0 17 0 rfl) (bg_dX7_told__0 18 89 rfl)
theorem dX7_told__19 : decode cX7_told_ 19 = .ok (.ireturn, 1) := o_172 (bg_dX7_told__0 19 172 rfl)
theorem dX7_told__20 : decode cX7_told_ 20 = .ok (.aload_n 0, 1) := o_42 (bg_dX7_told__0 20 42 rfl)
theorem dX7_told__21 : decode cX7_told_ 21 = .ok (.iload_n 1, 1) := o_27 (bg_dX7_told__0 21 27 rfl)
theorem dX7_told__22 : decode cX7_told_ 22 = .ok (.iload_n 2, 1) := o_28 (bg_dX7_told__0 22 28 rfl)
theorem dX7_told__23 : decode cX7_told_ 23 = .ok (.iload_n 3, 1) := o_29 (bg_dX7_told__0 23 29 rfl)
theorem bg_dX7_told__24 : bysAt cX7_told_ 24 [21, 4, 21, 5, 182, 1, 57, 54, 7, 21, 7, 153, 0, 6, 21, 7, 172, 42, 27, 28, 29, 21, 4, 21, 5] := bysAt_of (by decide +kernel)
theorem dX7_told__24 : decode cX7_told_ 24 = .ok (.iload 4, 2) := o_21 (bg_dX7_told__24 0 21 rfl) (bg_dX7_told__24 1 4 rfl)
theorem dX7_told__26 : decode cX7_told_ 26 = .ok (.iload 5, 2) := o_21 (bg_dX7_told__24 2 21 rfl) (bg_dX7_told__24 3 5 rfl)
theorem dX7_told__28 : decode cX7_told_ 28 = .ok (.invokevirtual 313, 3) := o_182 (bg_dX7_told__24 4 182 rfl) (bg_dX7_told__24 5 1 rfl) (bg_dX7_told__24 6 57 rfl)
theorem dX7_told__31 : decode cX7_told_ 31 = .ok (.istore 7, 2) := o_54 (bg_dX7_told__24 7 54 rfl) (bg_dX7_told__24 8 7 rfl)
theorem dX7_told__33 : decode cX7_told_ 33 = .ok (.iload 7, 2) := o_21 (bg_dX7_told__24 9 21 rfl) (bg_dX7_told__24 10 7 rfl)
theorem dX7_told__35 : decode cX7_told_ 35 = .ok (.ifCond .eq 6, 3) := o_153 (bg_dX7_told__24 11 153 rfl) (bg_dX7_told__24 12 0 rfl) (bg_dX7_told__24 13 6 rfl) (by decide +kernel)
theorem dX7_told__38 : decode cX7_told_ 38 = .ok (.iload 7, 2) := o_21 (bg_dX7_told__24 14 21 rfl) (bg_dX7_told__24 15 7 rfl)
theorem dX7_told__40 : decode cX7_told_ 40 = .ok (.ireturn, 1) := o_172 (bg_dX7_told__24 16 172 rfl)
theorem dX7_told__41 : decode cX7_told_ 41 = .ok (.aload_n 0, 1) := o_42 (bg_dX7_told__24 17 42 rfl)
theorem dX7_told__42 : decode cX7_told_ 42 = .ok (.iload_n 1, 1) := o_27 (bg_dX7_told__24 18 27 rfl)
theorem dX7_told__43 : decode cX7_told_ 43 = .ok (.iload_n 2, 1) := o_28 (bg_dX7_told__24 19 28 rfl)
theorem dX7_told__44 : decode cX7_told_ 44 = .ok (.iload_n 3, 1) := o_29 (bg_dX7_told__24 20 29 rfl)
theorem dX7_told__45 : decode cX7_told_ 45 = .ok (.iload 4, 2) := o_21 (bg_dX7_told__24 21 21 rfl) (bg_dX7_told__24 22 4 rfl)
theorem dX7_told__47 : decode cX7_told_ 47 = .ok (.iload 5, 2) := o_21 (bg_dX7_told__24 23 21 rfl) (bg_dX7_told__24 24 5 rfl)
theorem bg_dX7_told__49 : bysAt cX7_told_ 49 [182, 1, 60, 2, 159, 0, 10, 42, 16, 251, 182, 0, 89, 172, 3, 54, 8, 3, 54, 9, 3, 54, 10, 21, 10] := bysAt_of (by decide +kernel)
theorem dX7_told__49 : decode cX7_told_ 49 = .ok (.invokevirtual 316, 3) := o_182 (bg_dX7_told__49 0 182 rfl) (bg_dX7_told__49 1 1 rfl) (bg_dX7_told__49 2 60 rfl)
theorem dX7_told__52 : decode cX7_told_ 52 = .ok (.iconst (-1), 1) := o_2 (bg_dX7_told__49 3 2 rfl)
theorem dX7_told__53 : decode cX7_told_ 53 = .ok (.if_icmp .eq 10, 3) := o_159 (bg_dX7_told__49 4 159 rfl) (bg_dX7_told__49 5 0 rfl) (bg_dX7_told__49 6 10 rfl) (by decide +kernel)
theorem dX7_told__56 : decode cX7_told_ 56 = .ok (.aload_n 0, 1) := o_42 (bg_dX7_told__49 7 42 rfl)
theorem dX7_told__57 : decode cX7_told_ 57 = .ok (.bipush (-5), 2) := o_16 (bg_dX7_told__49 8 16 rfl) (bg_dX7_told__49 9 251 rfl) (by decide +kernel)
theorem dX7_told__59 : decode cX7_told_ 59 = .ok (.invokevirtual 89, 3) := o_182 (bg_dX7_told__49 10 182 rfl) (bg_dX7_told__49 11 0 rfl) (bg_dX7_told__49 12 89 rfl)
theorem dX7_told__62 : decode cX7_told_ 62 = .ok (.ireturn, 1) := o_172 (bg_dX7_told__49 13 172 rfl)
theorem dX7_told__63 : decode cX7_told_ 63 = .ok (.iconst 0, 1) := o_3 (bg_dX7_told__49 14 3 rfl)
theorem dX7_told__64 : decode cX7_told_ 64 = .ok (.istore 8, 2) := o_54 (bg_dX7_told__49 15 54 rfl) (bg_dX7_told__49 16 8 rfl)
theorem dX7_told__66 : decode cX7_told_ 66 = .ok (.iconst 0, 1) := o_3 (bg_dX7_told__49 17 3 rfl)
theorem dX7_told__67 : decode cX7_told_ 67 = .ok (.istore 9, 2) := o_54 (bg_dX7_told__49 18 54 rfl) (bg_dX7_told__49 19 9 rfl)
theorem dX7_told__69 : decode cX7_told_ 69 = .ok (.iconst 0, 1) := o_3 (bg_dX7_told__49 20 3 rfl)
theorem dX7_told__70 : decode cX7_told_ 70 = .ok (.istore 10, 2) := o_54 (bg_dX7_told__49 21 54 rfl) (bg_dX7_told__49 22 10 rfl)
theorem dX7_told__72 : decode cX7_told_ 72 = .ok (.iload 10, 2) := o_21 (bg_dX7_told__49 23 21 rfl) (bg_dX7_told__49 24 10 rfl)
theorem bg_dX7_told__74 : bysAt cX7_told_ 74 [21, 5, 162, 0, 68, 42, 180, 0, 21, 21, 4, 50, 21, 10, 47, 136, 54, 11, 21, 8, 21, 6, 154, 0, 15, 42] := bysAt_of (by decide +kernel)
theorem dX7_told__74 : decode cX7_told_ 74 = .ok (.iload 5, 2) := o_21 (bg_dX7_told__74 0 21 rfl) (bg_dX7_told__74 1 5 rfl)
theorem dX7_told__76 : decode cX7_told_ 76 = .ok (.if_icmp .ge 68, 3) := o_162 (bg_dX7_told__74 2 162 rfl) (bg_dX7_told__74 3 0 rfl) (bg_dX7_told__74 4 68 rfl) (by decide +kernel)
theorem dX7_told__79 : decode cX7_told_ 79 = .ok (.aload_n 0, 1) := o_42 (bg_dX7_told__74 5 42 rfl)
theorem dX7_told__80 : decode cX7_told_ 80 = .ok (.getfield 21, 3) := o_180 (bg_dX7_told__74 6 180 rfl) (bg_dX7_told__74 7 0 rfl) (bg_dX7_told__74 8 21 rfl)
theorem dX7_told__83 : decode cX7_told_ 83 = .ok (.iload 4, 2) := o_21 (bg_dX7_told__74 9 21 rfl) (bg_dX7_told__74 10 4 rfl)
theorem dX7_told__85 : decode cX7_told_ 85 = .ok (.aaload, 1) := o_50 (bg_dX7_told__74 11 50 rfl)
theorem dX7_told__86 : decode cX7_told_ 86 = .ok (.iload 10, 2) := o_21 (bg_dX7_told__74 12 21 rfl) (bg_dX7_told__74 13 10 rfl)
theorem dX7_told__88 : decode cX7_told_ 88 = .ok (.laload, 1) := o_47 (bg_dX7_told__74 14 47 rfl)
theorem dX7_told__89 : decode cX7_told_ 89 = .ok (.l2i, 1) := o_136 (bg_dX7_told__74 15 136 rfl)
theorem dX7_told__90 : decode cX7_told_ 90 = .ok (.istore 11, 2) := o_54 (bg_dX7_told__74 16 54 rfl) (bg_dX7_told__74 17 11 rfl)
theorem dX7_told__92 : decode cX7_told_ 92 = .ok (.iload 8, 2) := o_21 (bg_dX7_told__74 18 21 rfl) (bg_dX7_told__74 19 8 rfl)
theorem dX7_told__94 : decode cX7_told_ 94 = .ok (.iload 6, 2) := o_21 (bg_dX7_told__74 20 21 rfl) (bg_dX7_told__74 21 6 rfl)
theorem dX7_told__96 : decode cX7_told_ 96 = .ok (.ifCond .ne 15, 3) := o_154 (bg_dX7_told__74 22 154 rfl) (bg_dX7_told__74 23 0 rfl) (bg_dX7_told__74 24 15 rfl) (by decide +kernel)
theorem dX7_told__99 : decode cX7_told_ 99 = .ok (.aload_n 0, 1) := o_42 (bg_dX7_told__74 25 42 rfl)
theorem bg_dX7_told__100 : bysAt cX7_told_ 100 [27, 28, 21, 11, 4, 182, 1, 29, 167, 0, 11, 42, 27, 28, 21, 11, 182, 1, 33, 96, 54, 8, 21, 9] := bysAt_of (by decide +kernel)
theorem dX7_told__100 : decode cX7_told_ 100 = .ok (.iload_n 1, 1) := o_27 (bg_dX7_told__100 0 27 rfl)
theorem dX7_told__101 : decode cX7_told_ 101 = .ok (.iload_n 2, 1) := o_28 (bg_dX7_told__100 1 28 rfl)
theorem dX7_told__102 : decode cX7_told_ 102 = .ok (.iload 11, 2) := o_21 (bg_dX7_told__100 2 21 rfl) (bg_dX7_told__100 3 11 rfl)
theorem dX7_told__104 : decode cX7_told_ 104 = .ok (.iconst 1, 1) := o_4 (bg_dX7_told__100 4 4 rfl)
theorem dX7_told__105 : decode cX7_told_ 105 = .ok (.invokevirtual 285, 3) := o_182 (bg_dX7_told__100 5 182 rfl) (bg_dX7_told__100 6 1 rfl) (bg_dX7_told__100 7 29 rfl)
theorem dX7_told__108 : decode cX7_told_ 108 = .ok (.goto 11, 3) := o_167 (bg_dX7_told__100 8 167 rfl) (bg_dX7_told__100 9 0 rfl) (bg_dX7_told__100 10 11 rfl) (by decide +kernel)
theorem dX7_told__111 : decode cX7_told_ 111 = .ok (.aload_n 0, 1) := o_42 (bg_dX7_told__100 11 42 rfl)
theorem dX7_told__112 : decode cX7_told_ 112 = .ok (.iload_n 1, 1) := o_27 (bg_dX7_told__100 12 27 rfl)
theorem dX7_told__113 : decode cX7_told_ 113 = .ok (.iload_n 2, 1) := o_28 (bg_dX7_told__100 13 28 rfl)
theorem dX7_told__114 : decode cX7_told_ 114 = .ok (.iload 11, 2) := o_21 (bg_dX7_told__100 14 21 rfl) (bg_dX7_told__100 15 11 rfl)
theorem dX7_told__116 : decode cX7_told_ 116 = .ok (.invokevirtual 289, 3) := o_182 (bg_dX7_told__100 16 182 rfl) (bg_dX7_told__100 17 1 rfl) (bg_dX7_told__100 18 33 rfl)
theorem dX7_told__119 : decode cX7_told_ 119 = .ok (.iadd, 1) := o_96 (bg_dX7_told__100 19 96 rfl)
theorem dX7_told__120 : decode cX7_told_ 120 = .ok (.istore 8, 2) := o_54 (bg_dX7_told__100 20 54 rfl) (bg_dX7_told__100 21 8 rfl)
theorem dX7_told__122 : decode cX7_told_ 122 = .ok (.iload 9, 2) := o_21 (bg_dX7_told__100 22 21 rfl) (bg_dX7_told__100 23 9 rfl)
theorem bg_dX7_told__124 : bysAt cX7_told_ 124 [4, 42, 180, 0, 39, 21, 11, 50, 8, 46, 120, 128, 54, 9, 132, 10, 1, 167, 255, 187, 21, 6, 6, 160, 0, 8] := bysAt_of (by decide +kernel)
theorem dX7_told__124 : decode cX7_told_ 124 = .ok (.iconst 1, 1) := o_4 (bg_dX7_told__124 0 4 rfl)
theorem dX7_told__125 : decode cX7_told_ 125 = .ok (.aload_n 0, 1) := o_42 (bg_dX7_told__124 1 42 rfl)
theorem dX7_told__126 : decode cX7_told_ 126 = .ok (.getfield 39, 3) := o_180 (bg_dX7_told__124 2 180 rfl) (bg_dX7_told__124 3 0 rfl) (bg_dX7_told__124 4 39 rfl)
theorem dX7_told__129 : decode cX7_told_ 129 = .ok (.iload 11, 2) := o_21 (bg_dX7_told__124 5 21 rfl) (bg_dX7_told__124 6 11 rfl)
theorem dX7_told__131 : decode cX7_told_ 131 = .ok (.aaload, 1) := o_50 (bg_dX7_told__124 7 50 rfl)
theorem dX7_told__132 : decode cX7_told_ 132 = .ok (.iconst 5, 1) := o_8 (bg_dX7_told__124 8 8 rfl)
theorem dX7_told__133 : decode cX7_told_ 133 = .ok (.iaload, 1) := o_46 (bg_dX7_told__124 9 46 rfl)
theorem dX7_told__134 : decode cX7_told_ 134 = .ok (.ishl, 1) := o_120 (bg_dX7_told__124 10 120 rfl)
theorem dX7_told__135 : decode cX7_told_ 135 = .ok (.ior, 1) := o_128 (bg_dX7_told__124 11 128 rfl)
theorem dX7_told__136 : decode cX7_told_ 136 = .ok (.istore 9, 2) := o_54 (bg_dX7_told__124 12 54 rfl) (bg_dX7_told__124 13 9 rfl)
theorem dX7_told__141 : decode cX7_told_ 141 = .ok (.goto (-69), 3) := o_167 (bg_dX7_told__124 17 167 rfl) (bg_dX7_told__124 18 255 rfl) (bg_dX7_told__124 19 187 rfl) (by decide +kernel)
theorem dX7_told__144 : decode cX7_told_ 144 = .ok (.iload 6, 2) := o_21 (bg_dX7_told__124 20 21 rfl) (bg_dX7_told__124 21 6 rfl)
theorem dX7_told__146 : decode cX7_told_ 146 = .ok (.iconst 3, 1) := o_6 (bg_dX7_told__124 22 6 rfl)
theorem dX7_told__147 : decode cX7_told_ 147 = .ok (.if_icmp .ne 8, 3) := o_160 (bg_dX7_told__124 23 160 rfl) (bg_dX7_told__124 24 0 rfl) (bg_dX7_told__124 25 8 rfl) (by decide +kernel)
theorem bg_dX7_told__150 : bysAt cX7_told_ 150 [42, 180, 1, 54, 172, 21, 6, 5, 160, 0, 11, 21, 9, 184, 1, 65, 167, 0, 5, 21, 8, 172] := bysAt_of (by decide +kernel)
theorem dX7_told__150 : decode cX7_told_ 150 = .ok (.aload_n 0, 1) := o_42 (bg_dX7_told__150 0 42 rfl)
theorem dX7_told__151 : decode cX7_told_ 151 = .ok (.getfield 310, 3) := o_180 (bg_dX7_told__150 1 180 rfl) (bg_dX7_told__150 2 1 rfl) (bg_dX7_told__150 3 54 rfl)
theorem dX7_told__154 : decode cX7_told_ 154 = .ok (.ireturn, 1) := o_172 (bg_dX7_told__150 4 172 rfl)
theorem dX7_told__155 : decode cX7_told_ 155 = .ok (.iload 6, 2) := o_21 (bg_dX7_told__150 5 21 rfl) (bg_dX7_told__150 6 6 rfl)
theorem dX7_told__157 : decode cX7_told_ 157 = .ok (.iconst 2, 1) := o_5 (bg_dX7_told__150 7 5 rfl)
theorem dX7_told__158 : decode cX7_told_ 158 = .ok (.if_icmp .ne 11, 3) := o_160 (bg_dX7_told__150 8 160 rfl) (bg_dX7_told__150 9 0 rfl) (bg_dX7_told__150 10 11 rfl) (by decide +kernel)
theorem dX7_told__161 : decode cX7_told_ 161 = .ok (.iload 9, 2) := o_21 (bg_dX7_told__150 11 21 rfl) (bg_dX7_told__150 12 9 rfl)
theorem dX7_told__163 : decode cX7_told_ 163 = .ok (.invokestatic 321, 3) := o_184 (bg_dX7_told__150 13 184 rfl) (bg_dX7_told__150 14 1 rfl) (bg_dX7_told__150 15 65 rfl)
theorem dX7_told__166 : decode cX7_told_ 166 = .ok (.goto 5, 3) := o_167 (bg_dX7_told__150 16 167 rfl) (bg_dX7_told__150 17 0 rfl) (bg_dX7_told__150 18 5 rfl) (by decide +kernel)
theorem dX7_told__169 : decode cX7_told_ 169 = .ok (.iload 8, 2) := o_21 (bg_dX7_told__150 19 21 rfl) (bg_dX7_told__150 20 8 rfl)
theorem dX7_told__171 : decode cX7_told_ 171 = .ok (.ireturn, 1) := o_172 (bg_dX7_told__150 21 172 rfl)
theorem bg_dX7_under_0 : bysAt cX7_under 0 [27, 133, 9, 20, 0, 85, 184, 0, 62, 154, 0, 10, 42, 16, 254, 182, 0, 89, 172, 42, 180, 0, 54, 3, 46] := bysAt_of (by decide +kernel)
theorem dX7_under_0 : decode cX7_under 0 = .ok (.iload_n 1, 1) := o_27 (bg_dX7_under_0 0 27 rfl)
theorem dX7_under_1 : decode cX7_under 1 = .ok (.i2l, 1) := o_133 (bg_dX7_under_0 1 133 rfl)
theorem dX7_under_2 : decode cX7_under 2 = .ok (.lconst 0, 1) := o_9 (bg_dX7_under_0 2 9 rfl)
theorem dX7_under_3 : decode cX7_under 3 = .ok (.ldc2_w 85, 3) := o_20 (bg_dX7_under_0 3 20 rfl) (bg_dX7_under_0 4 0 rfl) (bg_dX7_under_0 5 85 rfl)
theorem dX7_under_6 : decode cX7_under 6 = .ok (.invokestatic 62, 3) := o_184 (bg_dX7_under_0 6 184 rfl) (bg_dX7_under_0 7 0 rfl) (bg_dX7_under_0 8 62 rfl)
theorem dX7_under_9 : decode cX7_under 9 = .ok (.ifCond .ne 10, 3) := o_154 (bg_dX7_under_0 9 154 rfl) (bg_dX7_under_0 10 0 rfl) (bg_dX7_under_0 11 10 rfl) (by decide +kernel)
theorem dX7_under_12 : decode cX7_under 12 = .ok (.aload_n 0, 1) := o_42 (bg_dX7_under_0 12 42 rfl)
theorem dX7_under_13 : decode cX7_under 13 = .ok (.bipush (-2), 2) := o_16 (bg_dX7_under_0 13 16 rfl) (bg_dX7_under_0 14 254 rfl) (by decide +kernel)
theorem dX7_under_15 : decode cX7_under 15 = .ok (.invokevirtual 89, 3) := o_182 (bg_dX7_under_0 15 182 rfl) (bg_dX7_under_0 16 0 rfl) (bg_dX7_under_0 17 89 rfl)
theorem dX7_under_18 : decode cX7_under 18 = .ok (.ireturn, 1) := o_172 (bg_dX7_under_0 18 172 rfl)
theorem dX7_under_19 : decode cX7_under 19 = .ok (.aload_n 0, 1) := o_42 (bg_dX7_under_0 19 42 rfl)
theorem dX7_under_20 : decode cX7_under 20 = .ok (.getfield 54, 3) := o_180 (bg_dX7_under_0 20 180 rfl) (bg_dX7_under_0 21 0 rfl) (bg_dX7_under_0 22 54 rfl)
theorem dX7_under_23 : decode cX7_under 23 = .ok (.iconst 0, 1) := o_3 (bg_dX7_under_0 23 3 rfl)
theorem dX7_under_24 : decode cX7_under 24 = .ok (.iaload, 1) := o_46 (bg_dX7_under_0 24 46 rfl)
theorem bg_dX7_under_25 : bysAt cX7_under 25 [154, 0, 10, 42, 16, 251, 182, 0, 89, 172, 27] := bysAt_of (by decide +kernel)
theorem dX7_under_25 : decode cX7_under 25 = .ok (.ifCond .ne 10, 3) := o_154 (bg_dX7_under_25 0 154 rfl) (bg_dX7_under_25 1 0 rfl) (bg_dX7_under_25 2 10 rfl) (by decide +kernel)
theorem dX7_under_28 : decode cX7_under 28 = .ok (.aload_n 0, 1) := o_42 (bg_dX7_under_25 3 42 rfl)
theorem dX7_under_29 : decode cX7_under 29 = .ok (.bipush (-5), 2) := o_16 (bg_dX7_under_25 4 16 rfl) (bg_dX7_under_25 5 251 rfl) (by decide +kernel)
theorem dX7_under_31 : decode cX7_under 31 = .ok (.invokevirtual 89, 3) := o_182 (bg_dX7_under_25 6 182 rfl) (bg_dX7_under_25 7 0 rfl) (bg_dX7_under_25 8 89 rfl)
theorem dX7_under_34 : decode cX7_under 34 = .ok (.ireturn, 1) := o_172 (bg_dX7_under_25 9 172 rfl)
theorem dX7_under_35 : decode cX7_under 35 = .ok (.iload_n 1, 1) := o_27 (bg_dX7_under_25 10 27 rfl)
theorem bg_dX7_under_68 : bysAt cX7_under 68 [42, 180, 0, 54, 6, 46, 172, 42, 180, 0, 54, 7, 46, 172, 42, 180, 1, 68, 172, 42] := bysAt_of (by decide +kernel)
theorem dX7_under_68 : decode cX7_under 68 = .ok (.aload_n 0, 1) := o_42 (bg_dX7_under_68 0 42 rfl)
theorem dX7_under_69 : decode cX7_under 69 = .ok (.getfield 54, 3) := o_180 (bg_dX7_under_68 1 180 rfl) (bg_dX7_under_68 2 0 rfl) (bg_dX7_under_68 3 54 rfl)
theorem dX7_under_72 : decode cX7_under 72 = .ok (.iconst 3, 1) := o_6 (bg_dX7_under_68 4 6 rfl)
theorem dX7_under_73 : decode cX7_under 73 = .ok (.iaload, 1) := o_46 (bg_dX7_under_68 5 46 rfl)
theorem dX7_under_74 : decode cX7_under 74 = .ok (.ireturn, 1) := o_172 (bg_dX7_under_68 6 172 rfl)
theorem dX7_under_75 : decode cX7_under 75 = .ok (.aload_n 0, 1) := o_42 (bg_dX7_under_68 7 42 rfl)
theorem dX7_under_76 : decode cX7_under 76 = .ok (.getfield 54, 3) := o_180 (bg_dX7_under_68 8 180 rfl) (bg_dX7_under_68 9 0 rfl) (bg_dX7_under_68 10 54 rfl)
theorem dX7_under_79 : decode cX7_under 79 = .ok (.iconst 4, 1) := o_7 (bg_dX7_under_68 11 7 rfl)
theorem dX7_under_80 : decode cX7_under 80 = .ok (.iaload, 1) := o_46 (bg_dX7_under_68 12 46 rfl)
theorem dX7_under_81 : decode cX7_under 81 = .ok (.ireturn, 1) := o_172 (bg_dX7_under_68 13 172 rfl)
theorem dX7_under_82 : decode cX7_under 82 = .ok (.aload_n 0, 1) := o_42 (bg_dX7_under_68 14 42 rfl)
theorem dX7_under_83 : decode cX7_under 83 = .ok (.getfield 324, 3) := o_180 (bg_dX7_under_68 15 180 rfl) (bg_dX7_under_68 16 1 rfl) (bg_dX7_under_68 17 68 rfl)
theorem dX7_under_86 : decode cX7_under 86 = .ok (.ireturn, 1) := o_172 (bg_dX7_under_68 18 172 rfl)
theorem dX7_under_87 : decode cX7_under 87 = .ok (.aload_n 0, 1) := o_42 (bg_dX7_under_68 19 42 rfl)
theorem bg_dX7_under_88 : bysAt cX7_under 88 [180, 0, 54, 8, 46, 172, 42, 180, 0, 54, 16, 6, 46, 172] := bysAt_of (by decide +kernel)
theorem dX7_under_88 : decode cX7_under 88 = .ok (.getfield 54, 3) := o_180 (bg_dX7_under_88 0 180 rfl) (bg_dX7_under_88 1 0 rfl) (bg_dX7_under_88 2 54 rfl)
theorem dX7_under_91 : decode cX7_under 91 = .ok (.iconst 5, 1) := o_8 (bg_dX7_under_88 3 8 rfl)
theorem dX7_under_92 : decode cX7_under 92 = .ok (.iaload, 1) := o_46 (bg_dX7_under_88 4 46 rfl)
theorem dX7_under_93 : decode cX7_under 93 = .ok (.ireturn, 1) := o_172 (bg_dX7_under_88 5 172 rfl)
theorem dX7_under_94 : decode cX7_under 94 = .ok (.aload_n 0, 1) := o_42 (bg_dX7_under_88 6 42 rfl)
theorem dX7_under_95 : decode cX7_under 95 = .ok (.getfield 54, 3) := o_180 (bg_dX7_under_88 7 180 rfl) (bg_dX7_under_88 8 0 rfl) (bg_dX7_under_88 9 54 rfl)
theorem dX7_under_98 : decode cX7_under 98 = .ok (.bipush 6, 2) := o_16 (bg_dX7_under_88 10 16 rfl) (bg_dX7_under_88 11 6 rfl) (by decide +kernel)
theorem dX7_under_100 : decode cX7_under 100 = .ok (.iaload, 1) := o_46 (bg_dX7_under_88 12 46 rfl)
theorem dX7_under_101 : decode cX7_under 101 = .ok (.ireturn, 1) := o_172 (bg_dX7_under_88 13 172 rfl)
theorem pdVX7_again : yX7_again.cls = RX7 ∧ yX7_again.cls ≠ "java/lang/invoke/MethodHandle" ∧ yX7_again.cls ≠ "java/lang/invoke/VarHandle" ∧ (parseMethodDescriptor yX7_again.desc).map (fun d => d.parameters.length) = some 5 := by decide +kernel
theorem pdX7_bits : yX7_bits.cls ≠ "java/lang/invoke/MethodHandle" ∧ yX7_bits.cls ≠ "java/lang/invoke/VarHandle" ∧ (parseMethodDescriptor yX7_bits.desc).map (fun d => d.parameters.length) = some 1 := by decide +kernel
theorem pdVX7_cheapestOf : yX7_cheapestOf.cls = RX7 ∧ yX7_cheapestOf.cls ≠ "java/lang/invoke/MethodHandle" ∧ yX7_cheapestOf.cls ≠ "java/lang/invoke/VarHandle" ∧ (parseMethodDescriptor yX7_cheapestOf.desc).map (fun d => d.parameters.length) = some 5 := by decide +kernel
theorem pdVX7_firstWrong : yX7_firstWrong.cls = RX7 ∧ yX7_firstWrong.cls ≠ "java/lang/invoke/MethodHandle" ∧ yX7_firstWrong.cls ≠ "java/lang/invoke/VarHandle" ∧ (parseMethodDescriptor yX7_firstWrong.desc).map (fun d => d.parameters.length) = some 5 := by decide +kernel
theorem pdVX7_noWay : yX7_noWay.cls = RX7 ∧ yX7_noWay.cls ≠ "java/lang/invoke/MethodHandle" ∧ yX7_noWay.cls ≠ "java/lang/invoke/VarHandle" ∧ (parseMethodDescriptor yX7_noWay.desc).map (fun d => d.parameters.length) = some 5 := by decide +kernel
theorem dX7_best_111 : decode cX7_best 111 = .ok (.iinc 7 1, 3) := by decide +kernel
theorem dX7_best_117 : decode cX7_best 117 = .ok (.iinc 6 1, 3) := by decide +kernel
theorem dX7_fewest_82 : decode cX7_fewest 82 = .ok (.iinc 5 1, 3) := by decide +kernel
theorem dX7_fewest_88 : decode cX7_fewest 88 = .ok (.iinc 4 1, 3) := by decide +kernel
theorem dX7_firstWrong_144 : decode cX7_firstWrong 144 = .ok (.iinc 7 1, 3) := by decide +kernel
theorem dX7_frost_235 : decode cX7_frost 235 = .ok (.iinc 16 1, 3) := by decide +kernel
theorem dX7_hang_163 : decode cX7_hang 163 = .ok (.iinc 8 1, 3) := by decide +kernel
theorem dX7_reach_71 : decode cX7_reach 71 = .ok (.iinc 5 1, 3) := by decide +kernel
theorem dX7_status_3 : decode cX7_status 3 = .ok (.tableswitch 134 0 7 #[45, 50, 55, 60, 65, 70, 103, 103], 45) := by decide +kernel
theorem dX7_status_98 : decode cX7_status 98 = .ok (.iinc 3 1, 3) := by decide +kernel
theorem dX7_status_129 : decode cX7_status 129 = .ok (.iinc 3 1, 3) := by decide +kernel
theorem dX7_step_312 : decode cX7_step 312 = .ok (.iinc 6 1, 3) := by decide +kernel
theorem dX7_step_320 : decode cX7_step 320 = .ok (.iinc 3 1, 3) := by decide +kernel
theorem dX7_told__138 : decode cX7_told_ 138 = .ok (.iinc 10 1, 3) := by decide +kernel
theorem dX7_under_36 : decode cX7_under 36 = .ok (.tableswitch 58 0 3 #[32, 39, 46, 51], 32) := by decide +kernel
set_option maxHeartbeats 4000000 in
set_option maxRecDepth 100000 in
theorem c_X7_best (l : Launch) (D : va_G) (E : Nat → ClassId) (G : Nat → Nat) (sz : Nat) (a : Nat → Nat) (C : Nat → va_E) (n : Nat) (hn : 74 ≤ n) (hT : TyM a E C) (x1 : Int32) (x2 : Int32) (x3 : Int32) (hR : RelM C) : Met l yX7_best (oh_w yX7_best cX7_best 9 (some .int)) ({ frames := 7, cells := 0, slots := 0, locals := 177 }) (oh_Pm D E G [.ref (a 0), .int x1, .int x2, .int x3] (oh_W n a C) sz) (va_Qi (fun r (u : Nat → va_E) => TyM a E u ∧ fr [(8, 9), (15, 16)] [] C u ∧ (RelM u)) (oh_B D (va_A (oh_W n a C) sz) (fun u => oh_W n a u)) (va_A (oh_W n a C) sz)) 0 0 (va_A (oh_W n a C) sz) := by
  refine Met.ofW (cc := cX7_best) (maxL := 9) (ret := (some .int)) (by decide) rfl ?_
  intro p e s m args below meth c s₁ B hml hv
  obtain ⟨rfl, hsz, hP, hK, hD0, hG⟩ := hv
  have hx := B.exec
  have hb := B.bytes
  have hr := B.returns
  have hts := atoms_spec (ws := (oh_w yX7_best cX7_best 9 (some .int))) B.pre
  have htg : ∀ w ∈ oh_t, w.before _ s = true := fun w h => hts w (List.mem_cons_of_mem _ h)
  have hown : s.vm.findClass RX7 = some m.cls := findClass_of_methodNamed B.named
  have hlocks := B.notSynchronized
  have hT0 := hT
  subst hsz
  have hD := hD0.self (sz := s.heap.size)
  generalize hAe : va_A (oh_W n a C) s.heap.size = A at hD hG ⊢
  have hA : ∀ q : Nat, s.heap.size ≤ q → A q := fun q h => by rw [← hAe]; exact Or.inr h
  have hS : va_S A s.heap s.heap [] := va_S.rf
  have hF : fr [(8, 9), (15, 16)] [] C C := fr_rf
  have hl := lv_entry ([.ref (a 0), .int x1, .int x2, .int x3]) (n := 9) (Nat.le_of_ble_eq_true rfl)
  rw [lg_entry_eq]
  generalize (lg_sl ([.ref (a 0), .int x1, .int x2, .int x3]) ++ List.replicate (9 - (lg_sl ([.ref (a 0), .int x1, .int x2, .int x3])).length) Slot.unset).toArray = ls at hl ⊢
  have hl : lv_has ls 9 [(0, .ref (a 0)), (1, .int x1), (2, .int x2), (3, .int x3)] := hl
  refine oh_genQ (fun Q hQ => ?_)
  refine lv_iload_n hx hb dX7_best_0 rfl (lv_at hl 1 rfl) ?_
  refine tq_S (As := [.int x1]) (rest := []) (ws := []) ⟨hx, hb, hml, hown, htg⟩ (c_X7_isPlace l D E G x1) (va_cwS 1 htg (oh_gS q_1130 q_1131 q_73 q_1132) rfl rfl rfl pdX7_isPlace ⟨Nat.le_of_ble_eq_true rfl, Nat.le_of_ble_eq_true rfl⟩) hK va_nil hG hS rfl hl.1 rfl (Nat.le_of_ble_eq_true rfl) dX7_best_1 ⟨Nat.le_of_ble_eq_true rfl, Nat.le_of_ble_eq_true rfl⟩ (fun r_1 hq_2 => ?_)
  refine lv_if_eq (tgt := 26) hx hb dX7_best_4 (by decide) (fun (c_3 : r_1 = 0) => ?_) (fun (c_3 : ¬ (r_1 = 0)) => ?_)
  · refine lv_aload_n hx hb dX7_best_26 rfl (lv_at hl 0 rfl) ?_
    refine lv_bipush (v := (-2)) hx hb dX7_best_27 (by decide) ?_
    refine tm_V (As := [.int (-2)]) (rest := []) ⟨hx, hb, hml, hown, htg⟩ (c_X7_refuse l D E G _ a C n hn hT ((-2) : Int32) (rg_w (rg_c (v := (-2)) (lo := (-2)) (hi := (-2)) (by decide)) (by decide))) (cwV 1 htg (oh_gV q_1071 q_1073 q_29 q_73 q_1074) rfl rfl rfl pdVX7_refuse ⟨Nat.le_of_ble_eq_true rfl, Nat.le_of_ble_eq_true rfl⟩) hK hP hD hG hS hA (va_recv hK hP (ci := 7) (q0 := 0) rfl (oh_wg (Nat.lt_of_lt_of_le (by decide) hn) (sM_0 hT))) rfl hl.1 rfl (Nat.le_of_ble_eq_true rfl) dX7_best_29 ⟨Nat.le_of_ble_eq_true rfl, Nat.le_of_ble_eq_true rfl⟩ (fun r_4 C_5 H locs hq_6 hP hD hS => ?_)
    obtain ⟨hT, f_7, hq_6⟩ := hq_6
    have hF := fr_tr hF f_7 (by decide) (by decide)
    refine W.widen (k := 0) (n := 0) (Nat.le_refl _) (Nat.le_refl _) ?_
    have t_8 := hT
    rw [hQ]
    exact W.iret (v := r_4) hx hb hr (fun t ht hW => ⟨⟨r_4, C_5, rfl, ⟨hT, hF, ⟨hR.1.fr hF (by decide), hR.2.fr hF (by decide)⟩⟩, ⟨by rw [ht]; exact hP, hD⟩⟩, hS.F ht⟩) hS.2.2 dX7_best_32
  · have u_9 := hq_2.2 c_3
    refine lv_iload_n hx hb dX7_best_7 rfl (lv_at hl 2 rfl) ?_
    refine tq_S (As := [.int x2]) (rest := []) (ws := []) ⟨hx, hb, hml, hown, htg⟩ (c_X7_isPlace l D E G x2) (va_cwS 1 htg (oh_gS q_1130 q_1131 q_73 q_1132) rfl rfl rfl pdX7_isPlace ⟨Nat.le_of_ble_eq_true rfl, Nat.le_of_ble_eq_true rfl⟩) hK va_nil hG hS rfl hl.1 rfl (Nat.le_of_ble_eq_true rfl) dX7_best_8 ⟨Nat.le_of_ble_eq_true rfl, Nat.le_of_ble_eq_true rfl⟩ (fun r_10 hq_11 => ?_)
    refine lv_if_eq (tgt := 26) hx hb dX7_best_11 (by decide) (fun (c_12 : r_10 = 0) => ?_) (fun (c_12 : ¬ (r_10 = 0)) => ?_)
    · refine lv_aload_n hx hb dX7_best_26 rfl (lv_at hl 0 rfl) ?_
      refine lv_bipush (v := (-2)) hx hb dX7_best_27 (by decide) ?_
      refine tm_V (As := [.int (-2)]) (rest := []) ⟨hx, hb, hml, hown, htg⟩ (c_X7_refuse l D E G _ a C n hn hT ((-2) : Int32) (rg_w (rg_c (v := (-2)) (lo := (-2)) (hi := (-2)) (by decide)) (by decide))) (cwV 1 htg (oh_gV q_1071 q_1073 q_29 q_73 q_1074) rfl rfl rfl pdVX7_refuse ⟨Nat.le_of_ble_eq_true rfl, Nat.le_of_ble_eq_true rfl⟩) hK hP hD hG hS hA (va_recv hK hP (ci := 7) (q0 := 0) rfl (oh_wg (Nat.lt_of_lt_of_le (by decide) hn) (sM_0 hT))) rfl hl.1 rfl (Nat.le_of_ble_eq_true rfl) dX7_best_29 ⟨Nat.le_of_ble_eq_true rfl, Nat.le_of_ble_eq_true rfl⟩ (fun r_13 C_14 H locs hq_15 hP hD hS => ?_)
      obtain ⟨hT, f_16, hq_15⟩ := hq_15
      have hF := fr_tr hF f_16 (by decide) (by decide)
      refine W.widen (k := 0) (n := 0) (Nat.le_refl _) (Nat.le_refl _) ?_
      have t_17 := hT
      rw [hQ]
      exact W.iret (v := r_13) hx hb hr (fun t ht hW => ⟨⟨r_13, C_14, rfl, ⟨hT, hF, ⟨hR.1.fr hF (by decide), hR.2.fr hF (by decide)⟩⟩, ⟨by rw [ht]; exact hP, hD⟩⟩, hS.F ht⟩) hS.2.2 dX7_best_32
    · have u_18 := hq_11.2 c_12
      refine lv_iload_n hx hb dX7_best_14 rfl (lv_at hl 3 rfl) ?_
      refine lv_i2l (v := Int32.toInt64 x3) hx hb dX7_best_15 (by rfl) ?_
      refine lv_lconst (v := 0) hx hb dX7_best_16 (by decide) ?_
      refine lv_ldc2 (v := 2) hx hb hown (htg _ q_1162) dX7_best_17 ?_
      refine tq_S (As := [.long (Int32.toInt64 x3), .long 0, .long 2]) (rest := []) (ws := []) ⟨hx, hb, hml, hown, htg⟩ (c_X7_in l D E G (Int32.toInt64 x3) (0 : Int64) (2 : Int64)) (va_cwS 3 htg (oh_gS q_1066 q_1067 q_73 q_1068) rfl rfl rfl pdX7_in ⟨Nat.le_of_ble_eq_true rfl, Nat.le_of_ble_eq_true rfl⟩) hK va_nil hG hS rfl hl.1 rfl (Nat.le_of_ble_eq_true rfl) dX7_best_20 ⟨Nat.le_of_ble_eq_true rfl, Nat.le_of_ble_eq_true rfl⟩ (fun r_19 hq_20 => ?_)
      refine lv_if_ne (tgt := 33) hx hb dX7_best_23 (by decide) (fun (c_21 : ¬ (r_19 = 0)) => ?_) (fun (c_21 : r_19 = 0) => ?_)
      · have u_22 := hq_20.2.1 c_21
        refine lv_iconst (v := (-1)) hx hb dX7_best_33 (by decide) ?_
        refine lv_istore (lv' := [(4, .int (-1)), (0, .ref (a 0)), (1, .int x1), (2, .int x2), (3, .int x3)]) hx hb dX7_best_34 hl (by decide) rfl (fun ls hl => ?_)
        refine lv_iconst (v := 0) hx hb dX7_best_36 (by decide) ?_
        refine lv_istore (lv' := [(5, .int 0), (4, .int (-1)), (0, .ref (a 0)), (1, .int x1), (2, .int x2), (3, .int x3)]) hx hb dX7_best_37 hl (by decide) rfl (fun ls hl => ?_)
        refine lv_iconst (v := 0) hx hb dX7_best_39 (by decide) ?_
        refine lv_istore (lv' := [(6, .int 0), (5, .int 0), (4, .int (-1)), (0, .ref (a 0)), (1, .int x1), (2, .int x2), (3, .int x3)]) hx hb dX7_best_40 hl (by decide) rfl (fun ls hl => ?_)
        have L_42 : ∀ (d : Nat) (K42 : Nat → va_E) (z42_6 : Int32) (z42_5 : Int32) (z42_4 : Int32) (H : Heap) (locs : List Loc) (ls : Array Slot), (5 - z42_6.toInt).toNat = d → rg z42_6 0 5 → TyM a E K42 → fr [(8, 9), (15, 16)] [] C K42 → fr [(15, 16)] [] C K42 → va_P D vwCl (oh_W n a K42) H → va_D A (oh_W n a K42) → va_S A s.heap H locs → lv_has ls 9 [(6, .int z42_6), (5, .int z42_5), (4, .int z42_4), (0, .ref (a 0)), (1, .int x1), (2, .int x2), (3, .int x3)] → W p l e ({ frames := 7, cells := 0, slots := 0, locals := 177 }) s m (([.ref (a 0), .int x1, .int x2, .int x3] : List Value).toArray) below meth c H locs 0 0 Q (F0 m 42 ls []) := by
          intro d
          induction d using Nat.strongRecOn with
          | ind d ih_42 =>
          intro K42 z42_6 z42_5 z42_4 H locs ls hd_42 hz42_6 hT hF hLF_42 hP hD hS hl
          have t_23 := hT
          refine lv_iload hx hb dX7_best_42 (lv_at hl 0 rfl) ?_
          refine lv_aload_n hx hb dX7_best_44 rfl (lv_at hl 3 rfl) ?_
          refine va_get (D := D) (ci := 7) (v := .int (gi (C 0) 13)) (C := RX7) (T := TX7) (N := 29) hx hb htg ig_7 hown hK hP 0 (oh_wg (Nat.lt_of_lt_of_le (by decide) hn) (sM_0 hT)) rfl 13 (by decide) (htg _ q_986) (fun _ h9 => h9) (oh_fv (c := K42 0) (j := 13) rfl (congrArg vi (hLF_42.2 13 (by decide)))) dX7_best_45 ?_
          refine lv_icmp_ge (tgt := 123) hx hb dX7_best_48 (by decide) (fun (c_24 : (gi (C 0) 13) ≤ z42_6) => ?_) (fun (c_24 : ¬ ((gi (C 0) 13) ≤ z42_6)) => ?_)
          · refine lv_iload hx hb dX7_best_123 (lv_at hl 2 rfl) ?_
            refine lv_iconst (v := (-1)) hx hb dX7_best_125 (by decide) ?_
            refine lv_icmp_ne (tgt := 136) hx hb dX7_best_126 (by decide) (fun (c_25 : ¬ (z42_4 = (-1))) => ?_) (fun (c_25 : z42_4 = (-1)) => ?_)
            · refine lv_iload_n hx hb dX7_best_136 rfl (lv_at hl 6 rfl) ?_
              refine lv_if_ne (tgt := 148) hx hb dX7_best_137 (by decide) (fun (c_26 : ¬ (x3 = 0)) => ?_) (fun (c_26 : x3 = 0) => ?_)
              · refine lv_iload_n hx hb dX7_best_148 rfl (lv_at hl 6 rfl) ?_
                refine lv_iconst (v := 1) hx hb dX7_best_149 (by decide) ?_
                refine lv_icmp_ne (tgt := 161) hx hb dX7_best_150 (by decide) (fun (c_27 : ¬ (x3 = 1)) => ?_) (fun (c_27 : x3 = 1) => ?_)
                · refine lv_iload hx hb dX7_best_161 (lv_at hl 1 rfl) ?_
                  rw [hQ]
                  exact W.iret (v := z42_5) hx hb hr (fun t ht hW => ⟨⟨z42_5, K42, rfl, ⟨hT, hF, ⟨hR.1.fr hF (by decide), hR.2.fr hF (by decide)⟩⟩, ⟨by rw [ht]; exact hP, hD⟩⟩, hS.F ht⟩) hS.2.2 dX7_best_163
                · refine lv_iload hx hb dX7_best_153 (lv_at hl 2 rfl) ?_
                  refine lv_bipush (v := 100) hx hb dX7_best_155 (by decide) ?_
                  refine lv_irem hx hb dX7_best_157 (by decide) ?_
                  refine lv_goto (tgt := 163) hx hb dX7_best_158 (by decide) ?_
                  rw [hQ]
                  exact W.iret (v := z42_4 - z42_4 / 100 * 100) hx hb hr (fun t ht hW => ⟨⟨z42_4 - z42_4 / 100 * 100, K42, rfl, ⟨hT, hF, ⟨hR.1.fr hF (by decide), hR.2.fr hF (by decide)⟩⟩, ⟨by rw [ht]; exact hP, hD⟩⟩, hS.F ht⟩) hS.2.2 dX7_best_163
              · refine lv_iload hx hb dX7_best_140 (lv_at hl 2 rfl) ?_
                refine lv_bipush (v := 100) hx hb dX7_best_142 (by decide) ?_
                refine lv_idiv hx hb dX7_best_144 (by decide) ?_
                refine lv_goto (tgt := 163) hx hb dX7_best_145 (by decide) ?_
                rw [hQ]
                exact W.iret (v := z42_4 / 100) hx hb hr (fun t ht hW => ⟨⟨z42_4 / 100, K42, rfl, ⟨hT, hF, ⟨hR.1.fr hF (by decide), hR.2.fr hF (by decide)⟩⟩, ⟨by rw [ht]; exact hP, hD⟩⟩, hS.F ht⟩) hS.2.2 dX7_best_163
            · refine lv_aload_n hx hb dX7_best_129 rfl (lv_at hl 3 rfl) ?_
              refine lv_bipush (v := (-5)) hx hb dX7_best_130 (by decide) ?_
              refine tm_V (As := [.int (-5)]) (rest := []) ⟨hx, hb, hml, hown, htg⟩ (c_X7_refuse l D E G _ a K42 n hn hT ((-5) : Int32) (rg_w (rg_c (v := (-5)) (lo := (-5)) (hi := (-5)) (by decide)) (by decide))) (cwV 1 htg (oh_gV q_1071 q_1073 q_29 q_73 q_1074) rfl rfl rfl pdVX7_refuse ⟨Nat.le_of_ble_eq_true rfl, Nat.le_of_ble_eq_true rfl⟩) hK hP hD hG hS hA (va_recv hK hP (ci := 7) (q0 := 0) rfl (oh_wg (Nat.lt_of_lt_of_le (by decide) hn) (sM_0 hT))) rfl hl.1 rfl (Nat.le_of_ble_eq_true rfl) dX7_best_132 ⟨Nat.le_of_ble_eq_true rfl, Nat.le_of_ble_eq_true rfl⟩ (fun r_28 C_29 H locs hq_30 hP hD hS => ?_)
              obtain ⟨hT, f_31, hq_30⟩ := hq_30
              have hF := fr_tr hF f_31 (by decide) (by decide)
              refine W.widen (k := 0) (n := 0) (Nat.le_refl _) (Nat.le_refl _) ?_
              have t_32 := hT
              rw [hQ]
              exact W.iret (v := r_28) hx hb hr (fun t ht hW => ⟨⟨r_28, C_29, rfl, ⟨hT, hF, ⟨hR.1.fr hF (by decide), hR.2.fr hF (by decide)⟩⟩, ⟨by rw [ht]; exact hP, hD⟩⟩, hS.F ht⟩) hS.2.2 dX7_best_135
          · refine lv_iconst (v := 0) hx hb dX7_best_51 (by decide) ?_
            refine lv_istore (lv' := [(7, .int 0), (6, .int z42_6), (5, .int z42_5), (4, .int z42_4), (0, .ref (a 0)), (1, .int x1), (2, .int x2), (3, .int x3)]) hx hb dX7_best_52 hl (by decide) rfl (fun ls hl => ?_)
            have L_54 : ∀ (d : Nat) (K54 : Nat → va_E) (z54_7 : Int32) (z54_5 : Int32) (z54_4 : Int32) (H : Heap) (locs : List Loc) (ls : Array Slot), (32 - z54_7.toInt).toNat = d → rg z54_7 0 32 → TyM a E K54 → fr [(8, 9), (15, 16)] [] C K54 → fr [(15, 16)] [] K42 K54 → va_P D vwCl (oh_W n a K54) H → va_D A (oh_W n a K54) → va_S A s.heap H locs → lv_has ls 9 [(7, .int z54_7), (6, .int z42_6), (5, .int z54_5), (4, .int z54_4), (0, .ref (a 0)), (1, .int x1), (2, .int x2), (3, .int x3)] → W p l e ({ frames := 7, cells := 0, slots := 0, locals := 177 }) s m (([.ref (a 0), .int x1, .int x2, .int x3] : List Value).toArray) below meth c H locs 0 0 Q (F0 m 54 ls []) := by
              intro d
              induction d using Nat.strongRecOn with
              | ind d ih_54 =>
              intro K54 z54_7 z54_5 z54_4 H locs ls hd_54 hz54_7 hT hF hLF_54 hP hD hS hl
              have t_33 := hT
              refine lv_iload hx hb dX7_best_54 (lv_at hl 0 rfl) ?_
              refine lv_iconst (v := 1) hx hb dX7_best_56 (by decide) ?_
              refine lv_aload_n hx hb dX7_best_57 rfl (lv_at hl 4 rfl) ?_
              refine va_get (D := D) (ci := 7) (v := .int (gi (C 0) 15)) (C := RX7) (T := TX7) (N := 29) hx hb htg ig_7 hown hK hP 0 (oh_wg (Nat.lt_of_lt_of_le (by decide) hn) (sM_0 hT)) rfl 15 (by decide) (htg _ q_988) (fun _ h9 => h9) (oh_fv (c := K54 0) (j := 15) rfl (Eq.trans (congrArg vi (hLF_54.2 15 (by decide))) (congrArg vi (hLF_42.2 15 (by decide))))) dX7_best_58 ?_
              refine lv_ishl hx hb dX7_best_61 ?_
              refine lv_icmp_ge (tgt := 117) hx hb dX7_best_62 (by decide) (fun (c_34 : ((1 : Int32) <<< ((gi (C 0) 15) &&& 31)) ≤ z54_7) => ?_) (fun (c_34 : ¬ (((1 : Int32) <<< ((gi (C 0) 15) &&& 31)) ≤ z54_7)) => ?_)
              · refine lv_iinc (v := z42_6 + 1) (lv' := [(6, .int (z42_6 + 1)), (7, .int z54_7), (5, .int z54_5), (4, .int z54_4), (0, .ref (a 0)), (1, .int x1), (2, .int x2), (3, .int x3)]) hx hb dX7_best_117 hl (k := 1) rfl (by rfl) (by decide) rfl (fun ls hl => ?_)
                refine lv_goto (tgt := 42) hx hb dX7_best_120 (by decide) ?_
                exact ih_42 _ (hd_42 ▸ mu_up 5 (rn_ltu (u' := 4) (Int32.not_le.mp c_24) hz42_6 (fM_0_13 hT0) (by decide)) (by decide)) K54 (z42_6 + 1) z54_5 z54_4 _ _ ls rfl (rg_w (rg_add (lo := 1) (hi := 5) (rn_ltu (u' := 4) (Int32.not_le.mp c_24) hz42_6 (fM_0_13 hT0) (by decide)) (rg_c (v := 1) (lo := 1) (hi := 1) (by decide)) (by decide)) (by decide)) hT hF (fr_tr hLF_42 hLF_54 (by decide) (by decide)) hP hD hS (lv_sub hl [0, 2, 3, 4, 5, 6, 7] rfl)
              · refine lv_aload_n hx hb dX7_best_65 rfl (lv_at hl 4 rfl) ?_
                refine lv_iload hx hb dX7_best_66 (lv_at hl 1 rfl) ?_
                refine lv_iload hx hb dX7_best_68 (lv_at hl 0 rfl) ?_
                refine lv_iload_n hx hb dX7_best_70 rfl (lv_at hl 5 rfl) ?_
                refine lv_iload_n hx hb dX7_best_71 rfl (lv_at hl 6 rfl) ?_
                refine lv_iconst (v := 1) hx hb dX7_best_72 (by decide) ?_
                refine tm_V (As := [.int z42_6, .int z54_7, .int x1, .int x2, .int 1]) (rest := []) ⟨hx, hb, hml, hown, htg⟩ (c_X7_cheapestOf l D E G _ a K54 n hn hT z42_6 z54_7 x1 x2 (1 : Int32) (rg_w (rn_ltu (u' := 4) (Int32.not_le.mp c_24) hz42_6 (fM_0_13 hT0) (by decide)) (by decide)) (rg_w u_9 (by decide)) (rg_w u_18 (by decide)) (oh_posU (rg_w (rn_ltu (u' := 4) (Int32.not_le.mp c_24) hz42_6 (fM_0_13 hT0) (by decide)) (by decide)) (fun i hi => hLF_54.1 _ (inR_out hi (by decide)) (by omega)) (oh_posU (rg_w (rn_ltu (u' := 4) (Int32.not_le.mp c_24) hz42_6 (fM_0_13 hT0) (by decide)) (by decide)) (fun i hi => hLF_42.1 _ (inR_out hi (by decide)) (by omega)) (oh_posw hR.1 (rg_w (rn_ltu (u' := 4) (Int32.not_le.mp c_24) hz42_6 (fM_0_13 hT0) (by decide)) (by decide)) (Int32.not_le.mp c_24))))) (cwV 5 htg (oh_gV q_1347 q_1349 q_59 q_73 q_1350) rfl rfl rfl pdVX7_cheapestOf ⟨Nat.le_of_ble_eq_true rfl, Nat.le_of_ble_eq_true rfl⟩) hK hP hD hG hS hA (va_recv hK hP (ci := 7) (q0 := 0) rfl (oh_wg (Nat.lt_of_lt_of_le (by decide) hn) (sM_0 hT))) rfl hl.1 rfl (Nat.le_of_ble_eq_true rfl) dX7_best_73 ⟨Nat.le_of_ble_eq_true rfl, Nat.le_of_ble_eq_true rfl⟩ (fun r_35 C_36 H locs hq_37 hP hD hS => ?_)
                obtain ⟨hT, f_38, hq_37⟩ := hq_37
                have hF := fr_tr hF f_38 (by decide) (by decide)
                refine W.widen (k := 0) (n := 0) (Nat.le_refl _) (Nat.le_refl _) ?_
                have t_39 := hT
                refine lv_istore (lv' := [(8, .int r_35), (7, .int z54_7), (6, .int z42_6), (5, .int z54_5), (4, .int z54_4), (0, .ref (a 0)), (1, .int x1), (2, .int x2), (3, .int x3)]) hx hb dX7_best_76 hl (by decide) rfl (fun ls hl => ?_)
                refine lv_iload hx hb dX7_best_78 (lv_at hl 0 rfl) ?_
                refine lv_iconst (v := (-1)) hx hb dX7_best_80 (by decide) ?_
                refine lv_icmp_eq (tgt := 111) hx hb dX7_best_81 (by decide) (fun (c_40 : r_35 = (-1)) => ?_) (fun (c_40 : ¬ (r_35 = (-1))) => ?_)
                · refine lv_iinc (v := z54_7 + 1) (lv' := [(7, .int (z54_7 + 1)), (8, .int r_35), (6, .int z42_6), (5, .int z54_5), (4, .int z54_4), (0, .ref (a 0)), (1, .int x1), (2, .int x2), (3, .int x3)]) hx hb dX7_best_111 hl (k := 1) rfl (by rfl) (by decide) rfl (fun ls hl => ?_)
                  refine lv_goto (tgt := 54) hx hb dX7_best_114 (by decide) ?_
                  exact ih_54 _ (hd_54 ▸ mu_up 32 (rn_ltu (u' := 31) (Int32.not_le.mp c_34) hz54_7 (rg_shl1 (fM_0_15 hT0)) (by decide)) (by decide)) C_36 (z54_7 + 1) z54_5 z54_4 _ _ ls rfl (rg_w (rg_add (lo := 1) (hi := 32) (rn_ltu (u' := 31) (Int32.not_le.mp c_34) hz54_7 (rg_shl1 (fM_0_15 hT0)) (by decide)) (rg_c (v := 1) (lo := 1) (hi := 1) (by decide)) (by decide)) (by decide)) hT hF (fr_tr hLF_54 f_38 (by decide) (by decide)) hP hD hS (lv_sub hl [0, 2, 3, 4, 5, 6, 7, 8] rfl)
                · refine lv_iload hx hb dX7_best_84 (lv_at hl 4 rfl) ?_
                  refine lv_iconst (v := (-1)) hx hb dX7_best_86 (by decide) ?_
                  refine lv_icmp_eq (tgt := 97) hx hb dX7_best_87 (by decide) (fun (c_41 : z54_4 = (-1)) => ?_) (fun (c_41 : ¬ (z54_4 = (-1))) => ?_)
                  · refine lv_bipush (v := 100) hx hb dX7_best_97 (by decide) ?_
                    refine lv_iload hx hb dX7_best_99 (lv_at hl 2 rfl) ?_
                    refine lv_imul hx hb dX7_best_101 ?_
                    refine lv_iload hx hb dX7_best_102 (lv_at hl 1 rfl) ?_
                    refine lv_iadd hx hb dX7_best_104 ?_
                    refine lv_istore (lv' := [(4, .int ((100 * z42_6) + z54_7)), (8, .int r_35), (7, .int z54_7), (6, .int z42_6), (5, .int z54_5), (0, .ref (a 0)), (1, .int x1), (2, .int x2), (3, .int x3)]) hx hb dX7_best_105 hl (by decide) rfl (fun ls hl => ?_)
                    refine lv_iload hx hb dX7_best_107 (lv_at hl 1 rfl) ?_
                    refine lv_istore (lv' := [(5, .int r_35), (4, .int ((100 * z42_6) + z54_7)), (8, .int r_35), (7, .int z54_7), (6, .int z42_6), (0, .ref (a 0)), (1, .int x1), (2, .int x2), (3, .int x3)]) hx hb dX7_best_109 hl (by decide) rfl (fun ls hl => ?_)
                    refine lv_iinc (v := z54_7 + 1) (lv' := [(7, .int (z54_7 + 1)), (5, .int r_35), (4, .int ((100 * z42_6) + z54_7)), (8, .int r_35), (6, .int z42_6), (0, .ref (a 0)), (1, .int x1), (2, .int x2), (3, .int x3)]) hx hb dX7_best_111 hl (k := 3) rfl (by rfl) (by decide) rfl (fun ls hl => ?_)
                    refine lv_goto (tgt := 54) hx hb dX7_best_114 (by decide) ?_
                    exact ih_54 _ (hd_54 ▸ mu_up 32 (rn_ltu (u' := 31) (Int32.not_le.mp c_34) hz54_7 (rg_shl1 (fM_0_15 hT0)) (by decide)) (by decide)) C_36 (z54_7 + 1) r_35 ((100 * z42_6) + z54_7) _ _ ls rfl (rg_w (rg_add (lo := 1) (hi := 32) (rn_ltu (u' := 31) (Int32.not_le.mp c_34) hz54_7 (rg_shl1 (fM_0_15 hT0)) (by decide)) (rg_c (v := 1) (lo := 1) (hi := 1) (by decide)) (by decide)) (by decide)) hT hF (fr_tr hLF_54 f_38 (by decide) (by decide)) hP hD hS (lv_sub hl [0, 4, 1, 2, 5, 6, 7, 8] rfl)
                  · refine lv_iload hx hb dX7_best_90 (lv_at hl 0 rfl) ?_
                    refine lv_iload hx hb dX7_best_92 (lv_at hl 3 rfl) ?_
                    refine lv_icmp_ge (tgt := 111) hx hb dX7_best_94 (by decide) (fun (c_42 : z54_5 ≤ r_35) => ?_) (fun (c_42 : ¬ (z54_5 ≤ r_35)) => ?_)
                    · refine lv_iinc (v := z54_7 + 1) (lv' := [(7, .int (z54_7 + 1)), (8, .int r_35), (6, .int z42_6), (5, .int z54_5), (4, .int z54_4), (0, .ref (a 0)), (1, .int x1), (2, .int x2), (3, .int x3)]) hx hb dX7_best_111 hl (k := 1) rfl (by rfl) (by decide) rfl (fun ls hl => ?_)
                      refine lv_goto (tgt := 54) hx hb dX7_best_114 (by decide) ?_
                      exact ih_54 _ (hd_54 ▸ mu_up 32 (rn_ltu (u' := 31) (Int32.not_le.mp c_34) hz54_7 (rg_shl1 (fM_0_15 hT0)) (by decide)) (by decide)) C_36 (z54_7 + 1) z54_5 z54_4 _ _ ls rfl (rg_w (rg_add (lo := 1) (hi := 32) (rn_ltu (u' := 31) (Int32.not_le.mp c_34) hz54_7 (rg_shl1 (fM_0_15 hT0)) (by decide)) (rg_c (v := 1) (lo := 1) (hi := 1) (by decide)) (by decide)) (by decide)) hT hF (fr_tr hLF_54 f_38 (by decide) (by decide)) hP hD hS (lv_sub hl [0, 2, 3, 4, 5, 6, 7, 8] rfl)
                    · refine lv_bipush (v := 100) hx hb dX7_best_97 (by decide) ?_
                      refine lv_iload hx hb dX7_best_99 (lv_at hl 2 rfl) ?_
                      refine lv_imul hx hb dX7_best_101 ?_
                      refine lv_iload hx hb dX7_best_102 (lv_at hl 1 rfl) ?_
                      refine lv_iadd hx hb dX7_best_104 ?_
                      refine lv_istore (lv' := [(4, .int ((100 * z42_6) + z54_7)), (8, .int r_35), (7, .int z54_7), (6, .int z42_6), (5, .int z54_5), (0, .ref (a 0)), (1, .int x1), (2, .int x2), (3, .int x3)]) hx hb dX7_best_105 hl (by decide) rfl (fun ls hl => ?_)
                      refine lv_iload hx hb dX7_best_107 (lv_at hl 1 rfl) ?_
                      refine lv_istore (lv' := [(5, .int r_35), (4, .int ((100 * z42_6) + z54_7)), (8, .int r_35), (7, .int z54_7), (6, .int z42_6), (0, .ref (a 0)), (1, .int x1), (2, .int x2), (3, .int x3)]) hx hb dX7_best_109 hl (by decide) rfl (fun ls hl => ?_)
                      refine lv_iinc (v := z54_7 + 1) (lv' := [(7, .int (z54_7 + 1)), (5, .int r_35), (4, .int ((100 * z42_6) + z54_7)), (8, .int r_35), (6, .int z42_6), (0, .ref (a 0)), (1, .int x1), (2, .int x2), (3, .int x3)]) hx hb dX7_best_111 hl (k := 3) rfl (by rfl) (by decide) rfl (fun ls hl => ?_)
                      refine lv_goto (tgt := 54) hx hb dX7_best_114 (by decide) ?_
                      exact ih_54 _ (hd_54 ▸ mu_up 32 (rn_ltu (u' := 31) (Int32.not_le.mp c_34) hz54_7 (rg_shl1 (fM_0_15 hT0)) (by decide)) (by decide)) C_36 (z54_7 + 1) r_35 ((100 * z42_6) + z54_7) _ _ ls rfl (rg_w (rg_add (lo := 1) (hi := 32) (rn_ltu (u' := 31) (Int32.not_le.mp c_34) hz54_7 (rg_shl1 (fM_0_15 hT0)) (by decide)) (rg_c (v := 1) (lo := 1) (hi := 1) (by decide)) (by decide)) (by decide)) hT hF (fr_tr hLF_54 f_38 (by decide) (by decide)) hP hD hS (lv_sub hl [0, 4, 1, 2, 5, 6, 7, 8] rfl)
            exact L_54 _ K42 0 z42_5 z42_4 _ _ ls rfl (rg_w (rg_c (v := 0) (lo := 0) (hi := 0) (by decide)) (by decide)) hT hF fr_rf hP hD hS (lv_sub hl [0, 1, 2, 3, 4, 5, 6, 7] rfl)
        exact L_42 _ C 0 0 (-1) _ _ ls rfl (rg_w (rg_c (v := 0) (lo := 0) (hi := 0) (by decide)) (by decide)) hT hF fr_rf hP hD hS (lv_sub hl [0, 1, 2, 3, 4, 5, 6] rfl)
      · have u_43 := hq_20.2.2 c_21
        refine lv_aload_n hx hb dX7_best_26 rfl (lv_at hl 0 rfl) ?_
        refine lv_bipush (v := (-2)) hx hb dX7_best_27 (by decide) ?_
        refine tm_V (As := [.int (-2)]) (rest := []) ⟨hx, hb, hml, hown, htg⟩ (c_X7_refuse l D E G _ a C n hn hT ((-2) : Int32) (rg_w (rg_c (v := (-2)) (lo := (-2)) (hi := (-2)) (by decide)) (by decide))) (cwV 1 htg (oh_gV q_1071 q_1073 q_29 q_73 q_1074) rfl rfl rfl pdVX7_refuse ⟨Nat.le_of_ble_eq_true rfl, Nat.le_of_ble_eq_true rfl⟩) hK hP hD hG hS hA (va_recv hK hP (ci := 7) (q0 := 0) rfl (oh_wg (Nat.lt_of_lt_of_le (by decide) hn) (sM_0 hT))) rfl hl.1 rfl (Nat.le_of_ble_eq_true rfl) dX7_best_29 ⟨Nat.le_of_ble_eq_true rfl, Nat.le_of_ble_eq_true rfl⟩ (fun r_44 C_45 H locs hq_46 hP hD hS => ?_)
        obtain ⟨hT, f_47, hq_46⟩ := hq_46
        have hF := fr_tr hF f_47 (by decide) (by decide)
        refine W.widen (k := 0) (n := 0) (Nat.le_refl _) (Nat.le_refl _) ?_
        have t_48 := hT
        rw [hQ]
        exact W.iret (v := r_44) hx hb hr (fun t ht hW => ⟨⟨r_44, C_45, rfl, ⟨hT, hF, ⟨hR.1.fr hF (by decide), hR.2.fr hF (by decide)⟩⟩, ⟨by rw [ht]; exact hP, hD⟩⟩, hS.F ht⟩) hS.2.2 dX7_best_32

theorem oh_rowsS {C : Nat → va_E} {k : Nat} {z : Int32} {u : Int} (hz : rg z 0 u) (hu : decide (u < 100) = true) (h : ∀ j : Nat, (j : Int) < z.toInt → rgL (gb (C k) j) 0 23) (hn : rgL (gb (C k) z.toNatClampNeg) 0 23) : ∀ j : Nat, (j : Int) < (z + 1).toInt → rgL (gb (C k) j) 0 23 := by
  have hu2 := of_decide_eq_true hu
  intro j hj
  have e : (z + 1).toInt = z.toInt + 1 := by
    rw [Int32.toInt_add]
    exact oh_bmod (by show _ ≤ z.toInt + 1; have := hz.1; omega) (by show z.toInt + 1 ≤ _; have := hz.2; omega)
  have e2 := oh_nat hz (by decide)
  by_cases hq : (j : Int) < z.toInt
  · exact h j hq
  · have : j = z.toNatClampNeg := by omega
    rw [this]
    exact hn
theorem oh_rows0 {C : Nat → va_E} {k : Nat} : ∀ j : Nat, (j : Int) < (0 : Int32).toInt → rgL (gb (C k) j) 0 23 := fun j hj => absurd hj (by show ¬ (j : Int) < 0; omega)
theorem oh_rowsE {C : Nat → va_E} {k : Nat} {z n : Int32} (c : n ≤ z) (h : ∀ j : Nat, (j : Int) < z.toInt → rgL (gb (C k) j) 0 23) : ∀ j : Nat, (j : Int) < n.toInt → rgL (gb (C k) j) 0 23 := fun j hj => h j (by have := Int32.le_iff_toInt_le.mp c; omega)
theorem oh_rowsI {C : Nat → va_E} {k : Nat} {z n : Int32} {u : Int} (hz : rg z 0 u) (c : z < n) (h : ∀ j : Nat, (j : Int) < n.toInt → rgL (gb (C k) j) 0 23) : rgL (gb (C k) z.toNatClampNeg) 0 23 := h _ (by have := Int32.lt_iff_toInt_lt.mp c; have := oh_nat hz (by decide); omega)

theorem rgL_w {v : Int64} {l u lo hi : Int} (h : rgL v l u) (h1 : decide (lo ≤ l ∧ u ≤ hi) = true) : rgL v lo hi := by
  have h2 := of_decide_eq_true h1
  exact ⟨Int.le_trans h2.1 h.1, Int.le_trans h.2 h2.2⟩

theorem oh_rgB {c d : va_E} {j : Nat} {lo hi : Int} (e : c = d) (h : rgL (gb d j) lo hi) : rgL (gb c j) lo hi := by rw [e]; exact h

set_option maxHeartbeats 4000000 in
set_option maxRecDepth 100000 in
theorem c_X7_fewest (l : Launch) (D : va_G) (E : Nat → ClassId) (G : Nat → Nat) (sz : Nat) (a : Nat → Nat) (C : Nat → va_E) (n : Nat) (hn : 74 ≤ n) (hT : TyM a E C) (x1 : Int32) (x2 : Int32) (x3 : Int32) (hR : RelM C) : Met l yX7_fewest (oh_w yX7_fewest cX7_fewest 6 (some .int)) ({ frames := 7, cells := 0, slots := 0, locals := 177 }) (oh_Pm D E G [.ref (a 0), .int x1, .int x2, .int x3] (oh_W n a C) sz) (va_Qi (fun r (u : Nat → va_E) => TyM a E u ∧ fr [(8, 9), (15, 16)] [] C u ∧ (RelM u)) (oh_B D (va_A (oh_W n a C) sz) (fun u => oh_W n a u)) (va_A (oh_W n a C) sz)) 0 0 (va_A (oh_W n a C) sz) := by
  refine Met.ofW (cc := cX7_fewest) (maxL := 6) (ret := (some .int)) (by decide) rfl ?_
  intro p e s m args below meth c s₁ B hml hv
  obtain ⟨rfl, hsz, hP, hK, hD0, hG⟩ := hv
  have hx := B.exec
  have hb := B.bytes
  have hr := B.returns
  have hts := atoms_spec (ws := (oh_w yX7_fewest cX7_fewest 6 (some .int))) B.pre
  have htg : ∀ w ∈ oh_t, w.before _ s = true := fun w h => hts w (List.mem_cons_of_mem _ h)
  have hown : s.vm.findClass RX7 = some m.cls := findClass_of_methodNamed B.named
  have hlocks := B.notSynchronized
  have hT0 := hT
  subst hsz
  have hD := hD0.self (sz := s.heap.size)
  generalize hAe : va_A (oh_W n a C) s.heap.size = A at hD hG ⊢
  have hA : ∀ q : Nat, s.heap.size ≤ q → A q := fun q h => by rw [← hAe]; exact Or.inr h
  have hS : va_S A s.heap s.heap [] := va_S.rf
  have hF : fr [(8, 9), (15, 16)] [] C C := fr_rf
  have hl := lv_entry ([.ref (a 0), .int x1, .int x2, .int x3]) (n := 6) (Nat.le_of_ble_eq_true rfl)
  rw [lg_entry_eq]
  generalize (lg_sl ([.ref (a 0), .int x1, .int x2, .int x3]) ++ List.replicate (6 - (lg_sl ([.ref (a 0), .int x1, .int x2, .int x3])).length) Slot.unset).toArray = ls at hl ⊢
  have hl : lv_has ls 6 [(0, .ref (a 0)), (1, .int x1), (2, .int x2), (3, .int x3)] := hl
  refine oh_genQ (fun Q hQ => ?_)
  refine lv_aload_n hx hb dX7_fewest_0 rfl (lv_at hl 0 rfl) ?_
  refine lv_iload_n hx hb dX7_fewest_1 rfl (lv_at hl 1 rfl) ?_
  refine tq_V (As := [.int x1]) (rest := []) (ws := (oh_W n a C)) ⟨hx, hb, hml, hown, htg⟩ (c_X7_isWaggon l D E G a C n hn hT x1 hR.1) (cwV 1 htg (oh_gV q_1278 q_1280 q_48 q_73 q_1281) rfl rfl rfl pdVX7_isWaggon ⟨Nat.le_of_ble_eq_true rfl, Nat.le_of_ble_eq_true rfl⟩) hK hP hG hS (va_recv hK hP (ci := 7) (q0 := 0) rfl (oh_wg (Nat.lt_of_lt_of_le (by decide) hn) (sM_0 hT))) rfl hl.1 rfl (Nat.le_of_ble_eq_true rfl) dX7_fewest_2 ⟨Nat.le_of_ble_eq_true rfl, Nat.le_of_ble_eq_true rfl⟩ (fun r_1 hq_2 => ?_)
  refine lv_if_eq (tgt := 22) hx hb dX7_fewest_5 (by decide) (fun (c_3 : r_1 = 0) => ?_) (fun (c_3 : ¬ (r_1 = 0)) => ?_)
  · refine lv_aload_n hx hb dX7_fewest_22 rfl (lv_at hl 0 rfl) ?_
    refine lv_bipush (v := (-2)) hx hb dX7_fewest_23 (by decide) ?_
    refine tm_V (As := [.int (-2)]) (rest := []) ⟨hx, hb, hml, hown, htg⟩ (c_X7_refuse l D E G _ a C n hn hT ((-2) : Int32) (rg_w (rg_c (v := (-2)) (lo := (-2)) (hi := (-2)) (by decide)) (by decide))) (cwV 1 htg (oh_gV q_1071 q_1073 q_29 q_73 q_1074) rfl rfl rfl pdVX7_refuse ⟨Nat.le_of_ble_eq_true rfl, Nat.le_of_ble_eq_true rfl⟩) hK hP hD hG hS hA (va_recv hK hP (ci := 7) (q0 := 0) rfl (oh_wg (Nat.lt_of_lt_of_le (by decide) hn) (sM_0 hT))) rfl hl.1 rfl (Nat.le_of_ble_eq_true rfl) dX7_fewest_25 ⟨Nat.le_of_ble_eq_true rfl, Nat.le_of_ble_eq_true rfl⟩ (fun r_4 C_5 H locs hq_6 hP hD hS => ?_)
    obtain ⟨hT, f_7, hq_6⟩ := hq_6
    have hF := fr_tr hF f_7 (by decide) (by decide)
    refine W.widen (k := 0) (n := 0) (Nat.le_refl _) (Nat.le_refl _) ?_
    have t_8 := hT
    rw [hQ]
    exact W.iret (v := r_4) hx hb hr (fun t ht hW => ⟨⟨r_4, C_5, rfl, ⟨hT, hF, ⟨hR.1.fr hF (by decide), hR.2.fr hF (by decide)⟩⟩, ⟨by rw [ht]; exact hP, hD⟩⟩, hS.F ht⟩) hS.2.2 dX7_fewest_28
  · have u_9 := hq_2.2 c_3
    refine lv_iload_n hx hb dX7_fewest_8 rfl (lv_at hl 2 rfl) ?_
    refine tq_S (As := [.int x2]) (rest := []) (ws := []) ⟨hx, hb, hml, hown, htg⟩ (c_X7_isPlace l D E G x2) (va_cwS 1 htg (oh_gS q_1130 q_1131 q_73 q_1132) rfl rfl rfl pdX7_isPlace ⟨Nat.le_of_ble_eq_true rfl, Nat.le_of_ble_eq_true rfl⟩) hK va_nil hG hS rfl hl.1 rfl (Nat.le_of_ble_eq_true rfl) dX7_fewest_9 ⟨Nat.le_of_ble_eq_true rfl, Nat.le_of_ble_eq_true rfl⟩ (fun r_10 hq_11 => ?_)
    refine lv_if_eq (tgt := 22) hx hb dX7_fewest_12 (by decide) (fun (c_12 : r_10 = 0) => ?_) (fun (c_12 : ¬ (r_10 = 0)) => ?_)
    · refine lv_aload_n hx hb dX7_fewest_22 rfl (lv_at hl 0 rfl) ?_
      refine lv_bipush (v := (-2)) hx hb dX7_fewest_23 (by decide) ?_
      refine tm_V (As := [.int (-2)]) (rest := []) ⟨hx, hb, hml, hown, htg⟩ (c_X7_refuse l D E G _ a C n hn hT ((-2) : Int32) (rg_w (rg_c (v := (-2)) (lo := (-2)) (hi := (-2)) (by decide)) (by decide))) (cwV 1 htg (oh_gV q_1071 q_1073 q_29 q_73 q_1074) rfl rfl rfl pdVX7_refuse ⟨Nat.le_of_ble_eq_true rfl, Nat.le_of_ble_eq_true rfl⟩) hK hP hD hG hS hA (va_recv hK hP (ci := 7) (q0 := 0) rfl (oh_wg (Nat.lt_of_lt_of_le (by decide) hn) (sM_0 hT))) rfl hl.1 rfl (Nat.le_of_ble_eq_true rfl) dX7_fewest_25 ⟨Nat.le_of_ble_eq_true rfl, Nat.le_of_ble_eq_true rfl⟩ (fun r_13 C_14 H locs hq_15 hP hD hS => ?_)
      obtain ⟨hT, f_16, hq_15⟩ := hq_15
      have hF := fr_tr hF f_16 (by decide) (by decide)
      refine W.widen (k := 0) (n := 0) (Nat.le_refl _) (Nat.le_refl _) ?_
      have t_17 := hT
      rw [hQ]
      exact W.iret (v := r_13) hx hb hr (fun t ht hW => ⟨⟨r_13, C_14, rfl, ⟨hT, hF, ⟨hR.1.fr hF (by decide), hR.2.fr hF (by decide)⟩⟩, ⟨by rw [ht]; exact hP, hD⟩⟩, hS.F ht⟩) hS.2.2 dX7_fewest_28
    · have u_18 := hq_11.2 c_12
      refine lv_iload_n hx hb dX7_fewest_15 rfl (lv_at hl 3 rfl) ?_
      refine tq_S (As := [.int x3]) (rest := []) (ws := []) ⟨hx, hb, hml, hown, htg⟩ (c_X7_isPlace l D E G x3) (va_cwS 1 htg (oh_gS q_1130 q_1131 q_73 q_1132) rfl rfl rfl pdX7_isPlace ⟨Nat.le_of_ble_eq_true rfl, Nat.le_of_ble_eq_true rfl⟩) hK va_nil hG hS rfl hl.1 rfl (Nat.le_of_ble_eq_true rfl) dX7_fewest_16 ⟨Nat.le_of_ble_eq_true rfl, Nat.le_of_ble_eq_true rfl⟩ (fun r_19 hq_20 => ?_)
      refine lv_if_ne (tgt := 29) hx hb dX7_fewest_19 (by decide) (fun (c_21 : ¬ (r_19 = 0)) => ?_) (fun (c_21 : r_19 = 0) => ?_)
      · have u_22 := hq_20.2 c_21
        refine lv_iconst (v := 0) hx hb dX7_fewest_29 (by decide) ?_
        refine lv_istore (lv' := [(4, .int 0), (0, .ref (a 0)), (1, .int x1), (2, .int x2), (3, .int x3)]) hx hb dX7_fewest_30 hl (by decide) rfl (fun ls hl => ?_)
        have L_32 : ∀ (d : Nat) (K32 : Nat → va_E) (z32_4 : Int32) (H : Heap) (locs : List Loc) (ls : Array Slot), (6 - z32_4.toInt).toNat = d → rg z32_4 0 6 → TyM a E K32 → fr [(8, 9), (15, 16)] [] C K32 → fr [(15, 16)] [] C K32 → va_P D vwCl (oh_W n a K32) H → va_D A (oh_W n a K32) → va_S A s.heap H locs → lv_has ls 6 [(4, .int z32_4), (0, .ref (a 0)), (1, .int x1), (2, .int x2), (3, .int x3)] → W p l e ({ frames := 7, cells := 0, slots := 0, locals := 177 }) s m (([.ref (a 0), .int x1, .int x2, .int x3] : List Value).toArray) below meth c H locs 0 0 Q (F0 m 32 ls []) := by
          intro d
          induction d using Nat.strongRecOn with
          | ind d ih_32 =>
          intro K32 z32_4 H locs ls hd_32 hz32_4 hT hF hLF_32 hP hD hS hl
          have t_23 := hT
          refine lv_iload hx hb dX7_fewest_32 (lv_at hl 0 rfl) ?_
          refine lv_aload_n hx hb dX7_fewest_34 rfl (lv_at hl 1 rfl) ?_
          refine va_get (D := D) (ci := 7) (v := .int (gi (C 0) 15)) (C := RX7) (T := TX7) (N := 29) hx hb htg ig_7 hown hK hP 0 (oh_wg (Nat.lt_of_lt_of_le (by decide) hn) (sM_0 hT)) rfl 15 (by decide) (htg _ q_988) (fun _ h9 => h9) (oh_fv (c := K32 0) (j := 15) rfl (congrArg vi (hLF_32.2 15 (by decide)))) dX7_fewest_35 ?_
          refine lv_icmp_gt (tgt := 94) hx hb dX7_fewest_38 (by decide) (fun (c_24 : (gi (C 0) 15) < z32_4) => ?_) (fun (c_24 : ¬ ((gi (C 0) 15) < z32_4)) => ?_)
          · refine lv_aload_n hx hb dX7_fewest_94 rfl (lv_at hl 1 rfl) ?_
            refine lv_bipush (v := (-5)) hx hb dX7_fewest_95 (by decide) ?_
            refine tm_V (As := [.int (-5)]) (rest := []) ⟨hx, hb, hml, hown, htg⟩ (c_X7_refuse l D E G _ a K32 n hn hT ((-5) : Int32) (rg_w (rg_c (v := (-5)) (lo := (-5)) (hi := (-5)) (by decide)) (by decide))) (cwV 1 htg (oh_gV q_1071 q_1073 q_29 q_73 q_1074) rfl rfl rfl pdVX7_refuse ⟨Nat.le_of_ble_eq_true rfl, Nat.le_of_ble_eq_true rfl⟩) hK hP hD hG hS hA (va_recv hK hP (ci := 7) (q0 := 0) rfl (oh_wg (Nat.lt_of_lt_of_le (by decide) hn) (sM_0 hT))) rfl hl.1 rfl (Nat.le_of_ble_eq_true rfl) dX7_fewest_97 ⟨Nat.le_of_ble_eq_true rfl, Nat.le_of_ble_eq_true rfl⟩ (fun r_25 C_26 H locs hq_27 hP hD hS => ?_)
            obtain ⟨hT, f_28, hq_27⟩ := hq_27
            have hF := fr_tr hF f_28 (by decide) (by decide)
            refine W.widen (k := 0) (n := 0) (Nat.le_refl _) (Nat.le_refl _) ?_
            have t_29 := hT
            rw [hQ]
            exact W.iret (v := r_25) hx hb hr (fun t ht hW => ⟨⟨r_25, C_26, rfl, ⟨hT, hF, ⟨hR.1.fr hF (by decide), hR.2.fr hF (by decide)⟩⟩, ⟨by rw [ht]; exact hP, hD⟩⟩, hS.F ht⟩) hS.2.2 dX7_fewest_100
          · refine lv_iconst (v := 0) hx hb dX7_fewest_41 (by decide) ?_
            refine lv_istore (lv' := [(5, .int 0), (4, .int z32_4), (0, .ref (a 0)), (1, .int x1), (2, .int x2), (3, .int x3)]) hx hb dX7_fewest_42 hl (by decide) rfl (fun ls hl => ?_)
            have L_44 : ∀ (d : Nat) (K44 : Nat → va_E) (z44_5 : Int32) (H : Heap) (locs : List Loc) (ls : Array Slot), (32 - z44_5.toInt).toNat = d → rg z44_5 0 32 → TyM a E K44 → fr [(8, 9), (15, 16)] [] C K44 → fr [(15, 16)] [] K32 K44 → va_P D vwCl (oh_W n a K44) H → va_D A (oh_W n a K44) → va_S A s.heap H locs → lv_has ls 6 [(5, .int z44_5), (4, .int z32_4), (0, .ref (a 0)), (1, .int x1), (2, .int x2), (3, .int x3)] → W p l e ({ frames := 7, cells := 0, slots := 0, locals := 177 }) s m (([.ref (a 0), .int x1, .int x2, .int x3] : List Value).toArray) below meth c H locs 0 0 Q (F0 m 44 ls []) := by
              intro d
              induction d using Nat.strongRecOn with
              | ind d ih_44 =>
              intro K44 z44_5 H locs ls hd_44 hz44_5 hT hF hLF_44 hP hD hS hl
              have t_30 := hT
              refine lv_iload hx hb dX7_fewest_44 (lv_at hl 0 rfl) ?_
              refine lv_iconst (v := 1) hx hb dX7_fewest_46 (by decide) ?_
              refine lv_aload_n hx hb dX7_fewest_47 rfl (lv_at hl 2 rfl) ?_
              refine va_get (D := D) (ci := 7) (v := .int (gi (C 0) 15)) (C := RX7) (T := TX7) (N := 29) hx hb htg ig_7 hown hK hP 0 (oh_wg (Nat.lt_of_lt_of_le (by decide) hn) (sM_0 hT)) rfl 15 (by decide) (htg _ q_988) (fun _ h9 => h9) (oh_fv (c := K44 0) (j := 15) rfl (Eq.trans (congrArg vi (hLF_44.2 15 (by decide))) (congrArg vi (hLF_32.2 15 (by decide))))) dX7_fewest_48 ?_
              refine lv_ishl hx hb dX7_fewest_51 ?_
              refine lv_icmp_ge (tgt := 88) hx hb dX7_fewest_52 (by decide) (fun (c_31 : ((1 : Int32) <<< ((gi (C 0) 15) &&& 31)) ≤ z44_5) => ?_) (fun (c_31 : ¬ (((1 : Int32) <<< ((gi (C 0) 15) &&& 31)) ≤ z44_5)) => ?_)
              · refine lv_iinc (v := z32_4 + 1) (lv' := [(4, .int (z32_4 + 1)), (5, .int z44_5), (0, .ref (a 0)), (1, .int x1), (2, .int x2), (3, .int x3)]) hx hb dX7_fewest_88 hl (k := 1) rfl (by rfl) (by decide) rfl (fun ls hl => ?_)
                refine lv_goto (tgt := 32) hx hb dX7_fewest_91 (by decide) ?_
                exact ih_32 _ (hd_32 ▸ mu_up 6 (rn_leu (Int32.not_lt.mp c_24) hz32_4 (fM_0_15 hT0)) (by decide)) K44 (z32_4 + 1) _ _ ls rfl (rg_w (rg_add (lo := 1) (hi := 6) (rn_leu (Int32.not_lt.mp c_24) hz32_4 (fM_0_15 hT0)) (rg_c (v := 1) (lo := 1) (hi := 1) (by decide)) (by decide)) (by decide)) hT hF (fr_tr hLF_32 hLF_44 (by decide) (by decide)) hP hD hS (lv_sub hl [0, 2, 3, 4, 5] rfl)
              · refine lv_iload hx hb dX7_fewest_55 (lv_at hl 0 rfl) ?_
                refine tq_S (As := [.int z44_5]) (rest := []) (ws := []) ⟨hx, hb, hml, hown, htg⟩ (c_X7_bits l D E G z44_5) (va_cwS 1 htg (oh_gS q_1386 q_1387 q_73 q_1388) rfl rfl rfl pdX7_bits ⟨Nat.le_of_ble_eq_true rfl, Nat.le_of_ble_eq_true rfl⟩) hK va_nil hG hS rfl hl.1 rfl (Nat.le_of_ble_eq_true rfl) dX7_fewest_57 ⟨Nat.le_of_ble_eq_true rfl, Nat.le_of_ble_eq_true rfl⟩ (fun r_32 hq_33 => ?_)
                refine lv_iload hx hb dX7_fewest_60 (lv_at hl 1 rfl) ?_
                refine lv_icmp_ne (tgt := 82) hx hb dX7_fewest_62 (by decide) (fun (c_34 : ¬ (r_32 = z32_4)) => ?_) (fun (c_34 : r_32 = z32_4) => ?_)
                · refine lv_iinc (v := z44_5 + 1) (lv' := [(5, .int (z44_5 + 1)), (4, .int z32_4), (0, .ref (a 0)), (1, .int x1), (2, .int x2), (3, .int x3)]) hx hb dX7_fewest_82 hl (k := 0) rfl (by rfl) (by decide) rfl (fun ls hl => ?_)
                  refine lv_goto (tgt := 44) hx hb dX7_fewest_85 (by decide) ?_
                  exact ih_44 _ (hd_44 ▸ mu_up 32 (rn_ltu (u' := 31) (Int32.not_le.mp c_31) hz44_5 (rg_shl1 (fM_0_15 hT0)) (by decide)) (by decide)) K44 (z44_5 + 1) _ _ ls rfl (rg_w (rg_add (lo := 1) (hi := 32) (rn_ltu (u' := 31) (Int32.not_le.mp c_31) hz44_5 (rg_shl1 (fM_0_15 hT0)) (by decide)) (rg_c (v := 1) (lo := 1) (hi := 1) (by decide)) (by decide)) (by decide)) hT hF hLF_44 hP hD hS (lv_sub hl [0, 1, 2, 3, 4, 5] rfl)
                · refine lv_aload_n hx hb dX7_fewest_65 rfl (lv_at hl 2 rfl) ?_
                  refine lv_iload_n hx hb dX7_fewest_66 rfl (lv_at hl 3 rfl) ?_
                  refine lv_iload hx hb dX7_fewest_67 (lv_at hl 0 rfl) ?_
                  refine lv_iload_n hx hb dX7_fewest_69 rfl (lv_at hl 4 rfl) ?_
                  refine lv_iload_n hx hb dX7_fewest_70 rfl (lv_at hl 5 rfl) ?_
                  refine lv_iconst (v := 1) hx hb dX7_fewest_71 (by decide) ?_
                  refine tm_V (As := [.int x1, .int z44_5, .int x2, .int x3, .int 1]) (rest := []) ⟨hx, hb, hml, hown, htg⟩ (c_X7_cheapestOf l D E G _ a K44 n hn hT x1 z44_5 x2 x3 (1 : Int32) (rg_w u_9.1 (by decide)) (rg_w u_18 (by decide)) (rg_w u_22 (by decide)) (oh_posU (rg_w u_9.1 (by decide)) (fun i hi => hLF_44.1 _ (inR_out hi (by decide)) (by omega)) (oh_posU (rg_w u_9.1 (by decide)) (fun i hi => hLF_32.1 _ (inR_out hi (by decide)) (by omega)) u_9.2.1))) (cwV 5 htg (oh_gV q_1347 q_1349 q_59 q_73 q_1350) rfl rfl rfl pdVX7_cheapestOf ⟨Nat.le_of_ble_eq_true rfl, Nat.le_of_ble_eq_true rfl⟩) hK hP hD hG hS hA (va_recv hK hP (ci := 7) (q0 := 0) rfl (oh_wg (Nat.lt_of_lt_of_le (by decide) hn) (sM_0 hT))) rfl hl.1 rfl (Nat.le_of_ble_eq_true rfl) dX7_fewest_72 ⟨Nat.le_of_ble_eq_true rfl, Nat.le_of_ble_eq_true rfl⟩ (fun r_35 C_36 H locs hq_37 hP hD hS => ?_)
                  obtain ⟨hT, f_38, hq_37⟩ := hq_37
                  have hF := fr_tr hF f_38 (by decide) (by decide)
                  refine W.widen (k := 0) (n := 0) (Nat.le_refl _) (Nat.le_refl _) ?_
                  have t_39 := hT
                  refine lv_iconst (v := (-1)) hx hb dX7_fewest_75 (by decide) ?_
                  refine lv_icmp_eq (tgt := 82) hx hb dX7_fewest_76 (by decide) (fun (c_40 : r_35 = (-1)) => ?_) (fun (c_40 : ¬ (r_35 = (-1))) => ?_)
                  · refine lv_iinc (v := z44_5 + 1) (lv' := [(5, .int (z44_5 + 1)), (4, .int z32_4), (0, .ref (a 0)), (1, .int x1), (2, .int x2), (3, .int x3)]) hx hb dX7_fewest_82 hl (k := 0) rfl (by rfl) (by decide) rfl (fun ls hl => ?_)
                    refine lv_goto (tgt := 44) hx hb dX7_fewest_85 (by decide) ?_
                    exact ih_44 _ (hd_44 ▸ mu_up 32 (rn_ltu (u' := 31) (Int32.not_le.mp c_31) hz44_5 (rg_shl1 (fM_0_15 hT0)) (by decide)) (by decide)) C_36 (z44_5 + 1) _ _ ls rfl (rg_w (rg_add (lo := 1) (hi := 32) (rn_ltu (u' := 31) (Int32.not_le.mp c_31) hz44_5 (rg_shl1 (fM_0_15 hT0)) (by decide)) (rg_c (v := 1) (lo := 1) (hi := 1) (by decide)) (by decide)) (by decide)) hT hF (fr_tr hLF_44 f_38 (by decide) (by decide)) hP hD hS (lv_sub hl [0, 1, 2, 3, 4, 5] rfl)
                  · refine lv_iload hx hb dX7_fewest_79 (lv_at hl 0 rfl) ?_
                    rw [hQ]
                    exact W.iret (v := z44_5) hx hb hr (fun t ht hW => ⟨⟨z44_5, C_36, rfl, ⟨hT, hF, ⟨hR.1.fr hF (by decide), hR.2.fr hF (by decide)⟩⟩, ⟨by rw [ht]; exact hP, hD⟩⟩, hS.F ht⟩) hS.2.2 dX7_fewest_81
            exact L_44 _ K32 0 _ _ ls rfl (rg_w (rg_c (v := 0) (lo := 0) (hi := 0) (by decide)) (by decide)) hT hF fr_rf hP hD hS (lv_sub hl [0, 1, 2, 3, 4, 5] rfl)
        exact L_32 _ C 0 _ _ ls rfl (rg_w (rg_c (v := 0) (lo := 0) (hi := 0) (by decide)) (by decide)) hT hF fr_rf hP hD hS (lv_sub hl [0, 1, 2, 3, 4] rfl)
      · refine lv_aload_n hx hb dX7_fewest_22 rfl (lv_at hl 0 rfl) ?_
        refine lv_bipush (v := (-2)) hx hb dX7_fewest_23 (by decide) ?_
        refine tm_V (As := [.int (-2)]) (rest := []) ⟨hx, hb, hml, hown, htg⟩ (c_X7_refuse l D E G _ a C n hn hT ((-2) : Int32) (rg_w (rg_c (v := (-2)) (lo := (-2)) (hi := (-2)) (by decide)) (by decide))) (cwV 1 htg (oh_gV q_1071 q_1073 q_29 q_73 q_1074) rfl rfl rfl pdVX7_refuse ⟨Nat.le_of_ble_eq_true rfl, Nat.le_of_ble_eq_true rfl⟩) hK hP hD hG hS hA (va_recv hK hP (ci := 7) (q0 := 0) rfl (oh_wg (Nat.lt_of_lt_of_le (by decide) hn) (sM_0 hT))) rfl hl.1 rfl (Nat.le_of_ble_eq_true rfl) dX7_fewest_25 ⟨Nat.le_of_ble_eq_true rfl, Nat.le_of_ble_eq_true rfl⟩ (fun r_41 C_42 H locs hq_43 hP hD hS => ?_)
        obtain ⟨hT, f_44, hq_43⟩ := hq_43
        have hF := fr_tr hF f_44 (by decide) (by decide)
        refine W.widen (k := 0) (n := 0) (Nat.le_refl _) (Nat.le_refl _) ?_
        have t_45 := hT
        rw [hQ]
        exact W.iret (v := r_41) hx hb hr (fun t ht hW => ⟨⟨r_41, C_42, rfl, ⟨hT, hF, ⟨hR.1.fr hF (by decide), hR.2.fr hF (by decide)⟩⟩, ⟨by rw [ht]; exact hP, hD⟩⟩, hS.F ht⟩) hS.2.2 dX7_fewest_28

theorem oh_mid {p q : Int32} (hp : rg p 0 901) (hq : rg q (-1) 900) (c : p ≤ q) : rg ((p + q) / 2) 0 900 ∧ p.toInt ≤ ((p + q) / 2).toInt ∧ ((p + q) / 2).toInt ≤ q.toInt := by
  have c1 := Int32.le_iff_toInt_le.mp c
  obtain ⟨p1, p2⟩ := hp
  obtain ⟨q1, q2⟩ := hq
  have e : (p + q).toInt = p.toInt + q.toInt := by
    rw [Int32.toInt_add]
    exact oh_bmod (by omega) (by omega)
  have e2 : ((p + q) / 2).toInt = (p.toInt + q.toInt) / 2 := by
    rw [Int32.toInt_div, e]
    have h0 : (p.toInt + q.toInt).tdiv (2 : Int32).toInt = (p.toInt + q.toInt) / 2 := Int.tdiv_eq_ediv_of_nonneg (by omega)
    rw [h0]
    exact oh_bmod (by omega) (by omega)
  unfold rg
  rw [e2]
  omega
theorem oh_midu {x m p q : Int32} (hx : x = m) (hm : rg m 0 900 ∧ p.toInt ≤ m.toInt ∧ m.toInt ≤ q.toInt) : rg (x + 1) 0 901 ∧ (q.toInt - (x + 1).toInt + 1).toNat < (q.toInt - p.toInt + 1).toNat := by
  subst hx
  have e : (x + 1).toInt = x.toInt + 1 := by
    rw [Int32.toInt_add]
    exact oh_bmod (by show _ ≤ x.toInt + 1; have := hm.1.1; omega) (by show x.toInt + 1 ≤ _; have := hm.1.2; omega)
  unfold rg
  rw [e]
  obtain ⟨⟨a1, a2⟩, a3, a4⟩ := hm
  omega
theorem oh_midd {x m p q : Int32} (hx : x = m) (hm : rg m 0 900 ∧ p.toInt ≤ m.toInt ∧ m.toInt ≤ q.toInt) : rg (x - 1) (-1) 900 ∧ ((x - 1).toInt - p.toInt + 1).toNat < (q.toInt - p.toInt + 1).toNat := by
  subst hx
  have e : (x - 1).toInt = x.toInt - 1 := by
    rw [Int32.toInt_sub]
    exact oh_bmod (by show _ ≤ x.toInt - 1; have := hm.1.1; omega) (by show x.toInt - 1 ≤ _; have := hm.1.2; omega)
  unfold rg
  rw [e]
  obtain ⟨⟨a1, a2⟩, a3, a4⟩ := hm
  omega

set_option maxHeartbeats 4000000 in
set_option maxRecDepth 100000 in
theorem c_X7_status (l : Launch) (D : va_G) (E : Nat → ClassId) (G : Nat → Nat) (a : Nat → Nat) (C : Nat → va_E) (n : Nat) (hn : 74 ≤ n) (hT : TyM a E C) (x1 : Int32) (hR : RelM C) : Met l yX7_status (oh_w yX7_status cX7_status 4 (some .int)) ({ frames := 1, cells := 0, slots := 0, locals := 25 }) (oh_Pp D E G [.ref (a 0), .int x1] (oh_W n a C)) (vp_Si (fun r => True)) 0 0 (fun _ => False) := by
  refine Met.ofW (cc := cX7_status) (maxL := 4) (ret := (some .int)) (by decide) rfl ?_
  intro p e s m args below meth c s₁ B hml hv
  obtain ⟨rfl, hP, hK, hG⟩ := hv
  have hx := B.exec
  have hb := B.bytes
  have hr := B.returns
  have hts := atoms_spec (ws := (oh_w yX7_status cX7_status 4 (some .int))) B.pre
  have htg : ∀ w ∈ oh_t, w.before _ s = true := fun w h => hts w (List.mem_cons_of_mem _ h)
  have hown : s.vm.findClass RX7 = some m.cls := findClass_of_methodNamed B.named
  have hlocks := B.notSynchronized
  have hT0 := hT
  have hS : va_S (fun _ => False) s.heap s.heap [] := va_S.rf
  have hl := lv_entry ([.ref (a 0), .int x1]) (n := 4) (Nat.le_of_ble_eq_true rfl)
  rw [lg_entry_eq]
  generalize (lg_sl ([.ref (a 0), .int x1]) ++ List.replicate (4 - (lg_sl ([.ref (a 0), .int x1])).length) Slot.unset).toArray = ls at hl ⊢
  have hl : lv_has ls 4 [(0, .ref (a 0)), (1, .int x1)] := hl
  refine oh_genQ (fun Q hQ => ?_)
  refine lv_iconst (v := 0) hx hb dX7_status_0 (by decide) ?_
  refine lv_istore_n (lv' := [(2, .int 0), (0, .ref (a 0)), (1, .int x1)]) hx hb dX7_status_1 rfl hl (by decide) rfl (fun ls hl => ?_)
  refine lv_iload_n hx hb dX7_status_2 rfl (lv_at hl 2 rfl) ?_
  by_cases c_1 : x1 = 0
  · refine lv_tableIn (off := 45) (tgt := 48) hx hb dX7_status_3 (by rw [c_1]; decide) (by rw [c_1]; decide) (by rw [c_1]; decide) (by decide) ?_
    refine lv_aload_n hx hb dX7_status_48 rfl (lv_at hl 1 rfl) ?_
    refine va_get (D := D) (ci := 7) (v := .int (gi (C 0) 9)) (C := RX7) (T := TX7) (N := 29) hx hb htg ig_7 hown hK hP 0 (oh_wg (Nat.lt_of_lt_of_le (by decide) hn) (sM_0 hT)) rfl 9 (by decide) (htg _ q_982) (fun _ h9 => h9) rfl dX7_status_49 ?_
    rw [hQ]
    exact W.iret (v := gi (C 0) 9) hx hb hr (fun t ht hW => ⟨gi (C 0) 9, rfl, trivial, ht⟩) (fun q h => by cases h) dX7_status_52
  · by_cases c_2 : x1 = 1
    · refine lv_tableIn (off := 50) (tgt := 53) hx hb dX7_status_3 (by rw [c_2]; decide) (by rw [c_2]; decide) (by rw [c_2]; decide) (by decide) ?_
      refine lv_aload_n hx hb dX7_status_53 rfl (lv_at hl 1 rfl) ?_
      refine va_get (D := D) (ci := 7) (v := .int (gi (C 0) 11)) (C := RX7) (T := TX7) (N := 29) hx hb htg ig_7 hown hK hP 0 (oh_wg (Nat.lt_of_lt_of_le (by decide) hn) (sM_0 hT)) rfl 11 (by decide) (htg _ q_984) (fun _ h9 => h9) rfl dX7_status_54 ?_
      rw [hQ]
      exact W.iret (v := gi (C 0) 11) hx hb hr (fun t ht hW => ⟨gi (C 0) 11, rfl, trivial, ht⟩) (fun q h => by cases h) dX7_status_57
    · by_cases c_3 : x1 = 2
      · refine lv_tableIn (off := 55) (tgt := 58) hx hb dX7_status_3 (by rw [c_3]; decide) (by rw [c_3]; decide) (by rw [c_3]; decide) (by decide) ?_
        refine lv_aload_n hx hb dX7_status_58 rfl (lv_at hl 1 rfl) ?_
        refine va_get (D := D) (ci := 7) (v := .int (gi (C 0) 13)) (C := RX7) (T := TX7) (N := 29) hx hb htg ig_7 hown hK hP 0 (oh_wg (Nat.lt_of_lt_of_le (by decide) hn) (sM_0 hT)) rfl 13 (by decide) (htg _ q_986) (fun _ h9 => h9) rfl dX7_status_59 ?_
        rw [hQ]
        exact W.iret (v := gi (C 0) 13) hx hb hr (fun t ht hW => ⟨gi (C 0) 13, rfl, trivial, ht⟩) (fun q h => by cases h) dX7_status_62
      · by_cases c_4 : x1 = 3
        · refine lv_tableIn (off := 60) (tgt := 63) hx hb dX7_status_3 (by rw [c_4]; decide) (by rw [c_4]; decide) (by rw [c_4]; decide) (by decide) ?_
          refine lv_aload_n hx hb dX7_status_63 rfl (lv_at hl 1 rfl) ?_
          refine va_get (D := D) (ci := 7) (v := .int (gi (C 0) 15)) (C := RX7) (T := TX7) (N := 29) hx hb htg ig_7 hown hK hP 0 (oh_wg (Nat.lt_of_lt_of_le (by decide) hn) (sM_0 hT)) rfl 15 (by decide) (htg _ q_988) (fun _ h9 => h9) rfl dX7_status_64 ?_
          rw [hQ]
          exact W.iret (v := gi (C 0) 15) hx hb hr (fun t ht hW => ⟨gi (C 0) 15, rfl, trivial, ht⟩) (fun q h => by cases h) dX7_status_67
        · by_cases c_5 : x1 = 4
          · refine lv_tableIn (off := 65) (tgt := 68) hx hb dX7_status_3 (by rw [c_5]; decide) (by rw [c_5]; decide) (by rw [c_5]; decide) (by decide) ?_
            refine lv_aload_n hx hb dX7_status_68 rfl (lv_at hl 1 rfl) ?_
            refine va_get (D := D) (ci := 7) (v := .int (gi (C 0) 7)) (C := RX7) (T := TX7) (N := 29) hx hb htg ig_7 hown hK hP 0 (oh_wg (Nat.lt_of_lt_of_le (by decide) hn) (sM_0 hT)) rfl 7 (by decide) (htg _ q_980) (fun _ h9 => h9) rfl dX7_status_69 ?_
            rw [hQ]
            exact W.iret (v := gi (C 0) 7) hx hb hr (fun t ht hW => ⟨gi (C 0) 7, rfl, trivial, ht⟩) (fun q h => by cases h) dX7_status_72
          · by_cases c_6 : x1 = 5
            · refine lv_tableIn (off := 70) (tgt := 73) hx hb dX7_status_3 (by rw [c_6]; decide) (by rw [c_6]; decide) (by rw [c_6]; decide) (by decide) ?_
              refine lv_iconst (v := 0) hx hb dX7_status_73 (by decide) ?_
              refine lv_istore_n (lv' := [(3, .int 0), (2, .int 0), (0, .ref (a 0)), (1, .int x1)]) hx hb dX7_status_74 rfl hl (by decide) rfl (fun ls hl => ?_)
              have L_75 : ∀ (d : Nat) (z75_3 : Int32) (z75_2 : Int32) (ls : Array Slot), (8 - z75_3.toInt).toNat = d → rg z75_3 0 8 → lv_has ls 4 [(3, .int z75_3), (2, .int z75_2), (0, .ref (a 0)), (1, .int x1)] → W p l e ({ frames := 1, cells := 0, slots := 0, locals := 25 }) s m (([.ref (a 0), .int x1] : List Value).toArray) below meth c s.heap [] 0 0 Q (F0 m 75 ls []) := by
                intro d
                induction d using Nat.strongRecOn with
                | ind d ih_75 =>
                intro z75_3 z75_2 ls hd_75 hz75_3 hl
                refine lv_iload_n hx hb dX7_status_75 rfl (lv_at hl 0 rfl) ?_
                refine lv_bipush (v := 8) hx hb dX7_status_76 (by decide) ?_
                refine lv_icmp_ge (tgt := 104) hx hb dX7_status_78 (by decide) (fun (c_7 : (8 : Int32) ≤ z75_3) => ?_) (fun (c_7 : ¬ ((8 : Int32) ≤ z75_3)) => ?_)
                · refine lv_iload_n hx hb dX7_status_104 rfl (lv_at hl 1 rfl) ?_
                  rw [hQ]
                  exact W.iret (v := z75_2) hx hb hr (fun t ht hW => ⟨z75_2, rfl, trivial, ht⟩) (fun q h => by cases h) dX7_status_105
                · refine lv_iload_n hx hb dX7_status_81 rfl (lv_at hl 1 rfl) ?_
                  refine lv_aload_n hx hb dX7_status_82 rfl (lv_at hl 2 rfl) ?_
                  refine va_get (D := D) (ci := 7) (v := .ref (a 1)) (C := RX7) (T := TX7) (N := 29) hx hb htg ig_7 hown hK hP 0 (oh_wg (Nat.lt_of_lt_of_le (by decide) hn) (sM_0 hT)) rfl 0 (by decide) (htg _ q_973) (fun _ h9 => h9) rfl dX7_status_83 ?_
                  refine lv_iload_n hx hb dX7_status_86 rfl (lv_at hl 0 rfl) ?_
                  have n_8 : vp_in z75_3 8 := (rg_in (rn_ltu (u' := 7) (Int32.not_le.mp c_7) hz75_3 (rg_c (v := 8) (lo := 8) (hi := 8) (by decide)) (by decide)) (by decide))
                  refine th_iald hx hb hK hP 1 (Nat.lt_of_lt_of_le (by decide) hn) (sM_1 hT) n_8 dX7_status_87 ?_
                  refine lv_if_eq (tgt := 95) hx hb dX7_status_88 (by decide) (fun (c_9 : (ga (C 1) (z75_3).toNatClampNeg) = 0) => ?_) (fun (c_9 : ¬ ((ga (C 1) (z75_3).toNatClampNeg) = 0)) => ?_)
                  · refine lv_iconst (v := 0) hx hb dX7_status_95 (by decide) ?_
                    refine lv_iadd hx hb dX7_status_96 ?_
                    refine lv_istore_n (lv' := [(2, .int (z75_2 + 0)), (3, .int z75_3), (0, .ref (a 0)), (1, .int x1)]) hx hb dX7_status_97 rfl hl (by decide) rfl (fun ls hl => ?_)
                    refine lv_iinc (v := z75_3 + 1) (lv' := [(3, .int (z75_3 + 1)), (2, .int (z75_2 + 0)), (0, .ref (a 0)), (1, .int x1)]) hx hb dX7_status_98 hl (k := 1) rfl (by rfl) (by decide) rfl (fun ls hl => ?_)
                    refine lv_goto (tgt := 75) hx hb dX7_status_101 (by decide) ?_
                    exact ih_75 _ (hd_75 ▸ mu_up 8 (rn_ltu (u' := 7) (Int32.not_le.mp c_7) hz75_3 (rg_c (v := 8) (lo := 8) (hi := 8) (by decide)) (by decide)) (by decide)) (z75_3 + 1) (z75_2 + 0) ls rfl (rg_w (rg_add (lo := 1) (hi := 8) (rn_ltu (u' := 7) (Int32.not_le.mp c_7) hz75_3 (rg_c (v := 8) (lo := 8) (hi := 8) (by decide)) (by decide)) (rg_c (v := 1) (lo := 1) (hi := 1) (by decide)) (by decide)) (by decide)) (lv_sub hl [0, 1, 2, 3] rfl)
                  · refine lv_iconst (v := 1) hx hb dX7_status_91 (by decide) ?_
                    refine lv_goto (tgt := 96) hx hb dX7_status_92 (by decide) ?_
                    refine lv_iadd hx hb dX7_status_96 ?_
                    refine lv_istore_n (lv' := [(2, .int (z75_2 + 1)), (3, .int z75_3), (0, .ref (a 0)), (1, .int x1)]) hx hb dX7_status_97 rfl hl (by decide) rfl (fun ls hl => ?_)
                    refine lv_iinc (v := z75_3 + 1) (lv' := [(3, .int (z75_3 + 1)), (2, .int (z75_2 + 1)), (0, .ref (a 0)), (1, .int x1)]) hx hb dX7_status_98 hl (k := 1) rfl (by rfl) (by decide) rfl (fun ls hl => ?_)
                    refine lv_goto (tgt := 75) hx hb dX7_status_101 (by decide) ?_
                    exact ih_75 _ (hd_75 ▸ mu_up 8 (rn_ltu (u' := 7) (Int32.not_le.mp c_7) hz75_3 (rg_c (v := 8) (lo := 8) (hi := 8) (by decide)) (by decide)) (by decide)) (z75_3 + 1) (z75_2 + 1) ls rfl (rg_w (rg_add (lo := 1) (hi := 8) (rn_ltu (u' := 7) (Int32.not_le.mp c_7) hz75_3 (rg_c (v := 8) (lo := 8) (hi := 8) (by decide)) (by decide)) (rg_c (v := 1) (lo := 1) (hi := 1) (by decide)) (by decide)) (by decide)) (lv_sub hl [0, 1, 2, 3] rfl)
              exact L_75 _ 0 0 ls rfl (rg_w (rg_c (v := 0) (lo := 0) (hi := 0) (by decide)) (by decide)) (lv_sub hl [0, 1, 2, 3] rfl)
            · by_cases c_10 : x1 = 6
              · refine lv_tableIn (off := 103) (tgt := 106) hx hb dX7_status_3 (by rw [c_10]; decide) (by rw [c_10]; decide) (by rw [c_10]; decide) (by decide) ?_
                refine lv_iconst (v := 0) hx hb dX7_status_106 (by decide) ?_
                refine lv_istore_n (lv' := [(3, .int 0), (2, .int 0), (0, .ref (a 0)), (1, .int x1)]) hx hb dX7_status_107 rfl hl (by decide) rfl (fun ls hl => ?_)
                have L_108 : ∀ (d : Nat) (z108_3 : Int32) (z108_2 : Int32) (ls : Array Slot), (16 - z108_3.toInt).toNat = d → rg z108_3 0 16 → lv_has ls 4 [(3, .int z108_3), (2, .int z108_2), (0, .ref (a 0)), (1, .int x1)] → W p l e ({ frames := 1, cells := 0, slots := 0, locals := 25 }) s m (([.ref (a 0), .int x1] : List Value).toArray) below meth c s.heap [] 0 0 Q (F0 m 108 ls []) := by
                  intro d
                  induction d using Nat.strongRecOn with
                  | ind d ih_108 =>
                  intro z108_3 z108_2 ls hd_108 hz108_3 hl
                  refine lv_iload_n hx hb dX7_status_108 rfl (lv_at hl 0 rfl) ?_
                  refine lv_aload_n hx hb dX7_status_109 rfl (lv_at hl 2 rfl) ?_
                  refine va_get (D := D) (ci := 7) (v := .int (gi (C 0) 11)) (C := RX7) (T := TX7) (N := 29) hx hb htg ig_7 hown hK hP 0 (oh_wg (Nat.lt_of_lt_of_le (by decide) hn) (sM_0 hT)) rfl 11 (by decide) (htg _ q_984) (fun _ h9 => h9) rfl dX7_status_110 ?_
                  refine lv_icmp_ge (tgt := 135) hx hb dX7_status_113 (by decide) (fun (c_11 : (gi (C 0) 11) ≤ z108_3) => ?_) (fun (c_11 : ¬ ((gi (C 0) 11) ≤ z108_3)) => ?_)
                  · refine lv_iload_n hx hb dX7_status_135 rfl (lv_at hl 1 rfl) ?_
                    rw [hQ]
                    exact W.iret (v := z108_2) hx hb hr (fun t ht hW => ⟨z108_2, rfl, trivial, ht⟩) (fun q h => by cases h) dX7_status_136
                  · refine lv_iload_n hx hb dX7_status_116 rfl (lv_at hl 1 rfl) ?_
                    refine lv_aload_n hx hb dX7_status_117 rfl (lv_at hl 2 rfl) ?_
                    refine va_get (D := D) (ci := 7) (v := .ref (a 10)) (C := RX7) (T := TX7) (N := 29) hx hb htg ig_7 hown hK hP 0 (oh_wg (Nat.lt_of_lt_of_le (by decide) hn) (sM_0 hT)) rfl 12 (by decide) (htg _ q_985) (fun _ h9 => h9) rfl dX7_status_118 ?_
                    refine lv_iload_n hx hb dX7_status_121 rfl (lv_at hl 0 rfl) ?_
                    have n_12 : vp_in z108_3 16 := (rg_in (rn_ltu (u' := 15) (Int32.not_le.mp c_11) hz108_3 (fM_0_11 hT0) (by decide)) (by decide))
                    have b_13 : (z108_3).toNatClampNeg < 16 := vp_lt n_12
                    refine th_aald hx hb hK hP 10 2 (Nat.lt_of_lt_of_le (by decide) hn) (sM_10 hT) rfl n_12 dX7_status_122 ?_
                    refine lv_iload_n hx hb dX7_status_123 rfl (lv_at hl 3 rfl) ?_
                    refine lv_iconst (v := 1) hx hb dX7_status_124 (by decide) ?_
                    refine lv_iadd hx hb dX7_status_125 ?_
                    have n_14 : vp_in (x1 + 1) 10 := (rg_in (rg_add (lo := 7) (hi := 7) (rn_eq c_10 (rg_c (v := 6) (lo := 6) (hi := 6) (by decide))) (rg_c (v := 1) (lo := 1) (hi := 1) (by decide)) (by decide)) (by decide))
                    refine th_iald hx hb hK hP (48 + (z108_3).toNatClampNeg) (lt_blk b_13 hn (by decide)) (hT.bbridge b_13).1 n_14 dX7_status_126 ?_
                    refine lv_iadd hx hb dX7_status_127 ?_
                    refine lv_istore_n (lv' := [(2, .int (z108_2 + (ga (C (48 + (z108_3).toNatClampNeg)) (x1 + 1).toNatClampNeg))), (3, .int z108_3), (0, .ref (a 0)), (1, .int x1)]) hx hb dX7_status_128 rfl hl (by decide) rfl (fun ls hl => ?_)
                    refine lv_iinc (v := z108_3 + 1) (lv' := [(3, .int (z108_3 + 1)), (2, .int (z108_2 + (ga (C (48 + (z108_3).toNatClampNeg)) (x1 + 1).toNatClampNeg))), (0, .ref (a 0)), (1, .int x1)]) hx hb dX7_status_129 hl (k := 1) rfl (by rfl) (by decide) rfl (fun ls hl => ?_)
                    refine lv_goto (tgt := 108) hx hb dX7_status_132 (by decide) ?_
                    exact ih_108 _ (hd_108 ▸ mu_up 16 (rn_ltu (u' := 15) (Int32.not_le.mp c_11) hz108_3 (fM_0_11 hT0) (by decide)) (by decide)) (z108_3 + 1) (z108_2 + (ga (C (48 + (z108_3).toNatClampNeg)) (x1 + 1).toNatClampNeg)) ls rfl (rg_w (rg_add (lo := 1) (hi := 16) (rn_ltu (u' := 15) (Int32.not_le.mp c_11) hz108_3 (fM_0_11 hT0) (by decide)) (rg_c (v := 1) (lo := 1) (hi := 1) (by decide)) (by decide)) (by decide)) (lv_sub hl [0, 1, 2, 3] rfl)
                exact L_108 _ 0 0 ls rfl (rg_w (rg_c (v := 0) (lo := 0) (hi := 0) (by decide)) (by decide)) (lv_sub hl [0, 1, 2, 3] rfl)
              · by_cases c_15 : x1 = 7
                · refine lv_tableIn (off := 103) (tgt := 106) hx hb dX7_status_3 (by rw [c_15]; decide) (by rw [c_15]; decide) (by rw [c_15]; decide) (by decide) ?_
                  refine lv_iconst (v := 0) hx hb dX7_status_106 (by decide) ?_
                  refine lv_istore_n (lv' := [(3, .int 0), (2, .int 0), (0, .ref (a 0)), (1, .int x1)]) hx hb dX7_status_107 rfl hl (by decide) rfl (fun ls hl => ?_)
                  have L_108 : ∀ (d : Nat) (z108_3 : Int32) (z108_2 : Int32) (ls : Array Slot), (16 - z108_3.toInt).toNat = d → rg z108_3 0 16 → lv_has ls 4 [(3, .int z108_3), (2, .int z108_2), (0, .ref (a 0)), (1, .int x1)] → W p l e ({ frames := 1, cells := 0, slots := 0, locals := 25 }) s m (([.ref (a 0), .int x1] : List Value).toArray) below meth c s.heap [] 0 0 Q (F0 m 108 ls []) := by
                    intro d
                    induction d using Nat.strongRecOn with
                    | ind d ih_108 =>
                    intro z108_3 z108_2 ls hd_108 hz108_3 hl
                    refine lv_iload_n hx hb dX7_status_108 rfl (lv_at hl 0 rfl) ?_
                    refine lv_aload_n hx hb dX7_status_109 rfl (lv_at hl 2 rfl) ?_
                    refine va_get (D := D) (ci := 7) (v := .int (gi (C 0) 11)) (C := RX7) (T := TX7) (N := 29) hx hb htg ig_7 hown hK hP 0 (oh_wg (Nat.lt_of_lt_of_le (by decide) hn) (sM_0 hT)) rfl 11 (by decide) (htg _ q_984) (fun _ h9 => h9) rfl dX7_status_110 ?_
                    refine lv_icmp_ge (tgt := 135) hx hb dX7_status_113 (by decide) (fun (c_16 : (gi (C 0) 11) ≤ z108_3) => ?_) (fun (c_16 : ¬ ((gi (C 0) 11) ≤ z108_3)) => ?_)
                    · refine lv_iload_n hx hb dX7_status_135 rfl (lv_at hl 1 rfl) ?_
                      rw [hQ]
                      exact W.iret (v := z108_2) hx hb hr (fun t ht hW => ⟨z108_2, rfl, trivial, ht⟩) (fun q h => by cases h) dX7_status_136
                    · refine lv_iload_n hx hb dX7_status_116 rfl (lv_at hl 1 rfl) ?_
                      refine lv_aload_n hx hb dX7_status_117 rfl (lv_at hl 2 rfl) ?_
                      refine va_get (D := D) (ci := 7) (v := .ref (a 10)) (C := RX7) (T := TX7) (N := 29) hx hb htg ig_7 hown hK hP 0 (oh_wg (Nat.lt_of_lt_of_le (by decide) hn) (sM_0 hT)) rfl 12 (by decide) (htg _ q_985) (fun _ h9 => h9) rfl dX7_status_118 ?_
                      refine lv_iload_n hx hb dX7_status_121 rfl (lv_at hl 0 rfl) ?_
                      have n_17 : vp_in z108_3 16 := (rg_in (rn_ltu (u' := 15) (Int32.not_le.mp c_16) hz108_3 (fM_0_11 hT0) (by decide)) (by decide))
                      have b_18 : (z108_3).toNatClampNeg < 16 := vp_lt n_17
                      refine th_aald hx hb hK hP 10 2 (Nat.lt_of_lt_of_le (by decide) hn) (sM_10 hT) rfl n_17 dX7_status_122 ?_
                      refine lv_iload_n hx hb dX7_status_123 rfl (lv_at hl 3 rfl) ?_
                      refine lv_iconst (v := 1) hx hb dX7_status_124 (by decide) ?_
                      refine lv_iadd hx hb dX7_status_125 ?_
                      have n_19 : vp_in (x1 + 1) 10 := (rg_in (rg_add (lo := 8) (hi := 8) (rn_eq c_15 (rg_c (v := 7) (lo := 7) (hi := 7) (by decide))) (rg_c (v := 1) (lo := 1) (hi := 1) (by decide)) (by decide)) (by decide))
                      refine th_iald hx hb hK hP (48 + (z108_3).toNatClampNeg) (lt_blk b_18 hn (by decide)) (hT.bbridge b_18).1 n_19 dX7_status_126 ?_
                      refine lv_iadd hx hb dX7_status_127 ?_
                      refine lv_istore_n (lv' := [(2, .int (z108_2 + (ga (C (48 + (z108_3).toNatClampNeg)) (x1 + 1).toNatClampNeg))), (3, .int z108_3), (0, .ref (a 0)), (1, .int x1)]) hx hb dX7_status_128 rfl hl (by decide) rfl (fun ls hl => ?_)
                      refine lv_iinc (v := z108_3 + 1) (lv' := [(3, .int (z108_3 + 1)), (2, .int (z108_2 + (ga (C (48 + (z108_3).toNatClampNeg)) (x1 + 1).toNatClampNeg))), (0, .ref (a 0)), (1, .int x1)]) hx hb dX7_status_129 hl (k := 1) rfl (by rfl) (by decide) rfl (fun ls hl => ?_)
                      refine lv_goto (tgt := 108) hx hb dX7_status_132 (by decide) ?_
                      exact ih_108 _ (hd_108 ▸ mu_up 16 (rn_ltu (u' := 15) (Int32.not_le.mp c_16) hz108_3 (fM_0_11 hT0) (by decide)) (by decide)) (z108_3 + 1) (z108_2 + (ga (C (48 + (z108_3).toNatClampNeg)) (x1 + 1).toNatClampNeg)) ls rfl (rg_w (rg_add (lo := 1) (hi := 16) (rn_ltu (u' := 15) (Int32.not_le.mp c_16) hz108_3 (fM_0_11 hT0) (by decide)) (rg_c (v := 1) (lo := 1) (hi := 1) (by decide)) (by decide)) (by decide)) (lv_sub hl [0, 1, 2, 3] rfl)
                  exact L_108 _ 0 0 ls rfl (rg_w (rg_c (v := 0) (lo := 0) (hi := 0) (by decide)) (by decide)) (lv_sub hl [0, 1, 2, 3] rfl)
                · refine lv_tableOut (tgt := 137) hx hb dX7_status_3 (by have h9 := And.intro (oh_ne c_1 (k := 0) (by decide)) (And.intro (oh_ne c_2 (k := 1) (by decide)) (And.intro (oh_ne c_3 (k := 2) (by decide)) (And.intro (oh_ne c_4 (k := 3) (by decide)) (And.intro (oh_ne c_5 (k := 4) (by decide)) (And.intro (oh_ne c_6 (k := 5) (by decide)) (And.intro (oh_ne c_10 (k := 6) (by decide)) (And.intro (oh_ne c_15 (k := 7) (by decide)) trivial))))))); omega) (by decide) ?_
                  refine lv_iload_n hx hb dX7_status_137 rfl (lv_at hl 2 rfl) ?_
                  refine lv_i2l (v := Int32.toInt64 x1) hx hb dX7_status_138 (by rfl) ?_
                  refine lv_ldc2 (v := 12) hx hb hown (htg _ q_1163) dX7_status_139 ?_
                  refine lv_ldc2 (v := 16) hx hb hown (htg _ q_1445) dX7_status_142 ?_
                  refine tq_S (As := [.long (Int32.toInt64 x1), .long 12, .long 16]) (rest := []) (ws := []) ⟨hx, hb, hml, hown, htg⟩ (c_X7_in l D E G (Int32.toInt64 x1) (12 : Int64) (16 : Int64)) (va_cwS 3 htg (oh_gS q_1066 q_1067 q_73 q_1068) rfl rfl rfl pdX7_in ⟨Nat.le_of_ble_eq_true rfl, Nat.le_of_ble_eq_true rfl⟩) hK va_nil hG hS rfl hl.1 rfl (Nat.le_of_ble_eq_true rfl) dX7_status_145 ⟨Nat.le_of_ble_eq_true rfl, Nat.le_of_ble_eq_true rfl⟩ (fun r_20 hq_21 => ?_)
                  refine lv_if_eq (tgt := 163) hx hb dX7_status_148 (by decide) (fun (c_22 : r_20 = 0) => ?_) (fun (c_22 : ¬ (r_20 = 0)) => ?_)
                  · have u_23 := hq_21.2.2 c_22
                    refine lv_iconst (v := (-1)) hx hb dX7_status_163 (by decide) ?_
                    rw [hQ]
                    exact W.iret (v := (-1)) hx hb hr (fun t ht hW => ⟨(-1), rfl, trivial, ht⟩) (fun q h => by cases h) dX7_status_164
                  · have u_24 := hq_21.2.1 c_22
                    refine lv_aload_n hx hb dX7_status_151 rfl (lv_at hl 1 rfl) ?_
                    refine va_get (D := D) (ci := 7) (v := .ref (a 8)) (C := RX7) (T := TX7) (N := 29) hx hb htg ig_7 hown hK hP 0 (oh_wg (Nat.lt_of_lt_of_le (by decide) hn) (sM_0 hT)) rfl 8 (by decide) (htg _ q_981) (fun _ h9 => h9) rfl dX7_status_152 ?_
                    refine lv_iload_n hx hb dX7_status_155 rfl (lv_at hl 2 rfl) ?_
                    refine lv_bipush (v := 10) hx hb dX7_status_156 (by decide) ?_
                    refine lv_isub hx hb dX7_status_158 ?_
                    have n_25 : vp_in (x1 - 10) 8 := (rg_in (rg_sub (lo := 2) (hi := 6) (rg_il (rgL_i (rg_il (rnL_leu u_24.2 (rnL_lel u_24.1 (rgL_c (v := 12) (lo := 12) (hi := 12) (by decide)) (rgL_i (rg_any _))) (rgL_c (v := 16) (lo := 16) (hi := 16) (by decide)))))) (rg_c (v := 10) (lo := 10) (hi := 10) (by decide)) (by decide)) (by decide))
                    refine th_iald hx hb hK hP 8 (Nat.lt_of_lt_of_le (by decide) hn) (sM_8 hT) n_25 dX7_status_159 ?_
                    refine lv_goto (tgt := 164) hx hb dX7_status_160 (by decide) ?_
                    rw [hQ]
                    exact W.iret (v := ga (C 8) (x1 - 10).toNatClampNeg) hx hb hr (fun t ht hW => ⟨ga (C 8) (x1 - 10).toNatClampNeg, rfl, trivial, ht⟩) (fun q h => by cases h) dX7_status_164
