theorem bg_dX0_become_0 : bysAt cX0_become 0 [43, 180, 0, 13, 3, 42, 180, 0, 13, 3, 42, 180, 0, 13, 190, 184, 0, 40, 43, 180, 0, 18, 3, 42] := bysAt_of (by decide +kernel)
theorem dX0_become_0 : decode cX0_become 0 = .ok (.aload_n 1, 1) := o_43 (bg_dX0_become_0 0 43 rfl)
theorem dX0_become_1 : decode cX0_become 1 = .ok (.getfield 13, 3) := o_180 (bg_dX0_become_0 1 180 rfl) (bg_dX0_become_0 2 0 rfl) (bg_dX0_become_0 3 13 rfl)
theorem dX0_become_4 : decode cX0_become 4 = .ok (.iconst 0, 1) := o_3 (bg_dX0_become_0 4 3 rfl)
theorem dX0_become_5 : decode cX0_become 5 = .ok (.aload_n 0, 1) := o_42 (bg_dX0_become_0 5 42 rfl)
theorem dX0_become_6 : decode cX0_become 6 = .ok (.getfield 13, 3) := o_180 (bg_dX0_become_0 6 180 rfl) (bg_dX0_become_0 7 0 rfl) (bg_dX0_become_0 8 13 rfl)
theorem dX0_become_9 : decode cX0_become 9 = .ok (.iconst 0, 1) := o_3 (bg_dX0_become_0 9 3 rfl)
theorem dX0_become_10 : decode cX0_become 10 = .ok (.aload_n 0, 1) := o_42 (bg_dX0_become_0 10 42 rfl)
theorem dX0_become_11 : decode cX0_become 11 = .ok (.getfield 13, 3) := o_180 (bg_dX0_become_0 11 180 rfl) (bg_dX0_become_0 12 0 rfl) (bg_dX0_become_0 13 13 rfl)
theorem dX0_become_14 : decode cX0_become 14 = .ok (.arraylength, 1) := o_190 (bg_dX0_become_0 14 190 rfl)
theorem dX0_become_15 : decode cX0_become 15 = .ok (.invokestatic 40, 3) := o_184 (bg_dX0_become_0 15 184 rfl) (bg_dX0_become_0 16 0 rfl) (bg_dX0_become_0 17 40 rfl)
theorem dX0_become_18 : decode cX0_become 18 = .ok (.aload_n 1, 1) := o_43 (bg_dX0_become_0 18 43 rfl)
theorem dX0_become_19 : decode cX0_become 19 = .ok (.getfield 18, 3) := o_180 (bg_dX0_become_0 19 180 rfl) (bg_dX0_become_0 20 0 rfl) (bg_dX0_become_0 21 18 rfl)
theorem dX0_become_22 : decode cX0_become 22 = .ok (.iconst 0, 1) := o_3 (bg_dX0_become_0 22 3 rfl)
theorem dX0_become_23 : decode cX0_become 23 = .ok (.aload_n 0, 1) := o_42 (bg_dX0_become_0 23 42 rfl)
theorem bg_dX0_become_24 : bysAt cX0_become 24 [180, 0, 18, 3, 42, 180, 0, 18, 190, 184, 0, 40, 43, 180, 0, 21, 3, 42, 180, 0, 21, 3, 42, 180, 0, 21] := bysAt_of (by decide +kernel)
theorem dX0_become_24 : decode cX0_become 24 = .ok (.getfield 18, 3) := o_180 (bg_dX0_become_24 0 180 rfl) (bg_dX0_become_24 1 0 rfl) (bg_dX0_become_24 2 18 rfl)
theorem dX0_become_27 : decode cX0_become 27 = .ok (.iconst 0, 1) := o_3 (bg_dX0_become_24 3 3 rfl)
theorem dX0_become_28 : decode cX0_become 28 = .ok (.aload_n 0, 1) := o_42 (bg_dX0_become_24 4 42 rfl)
theorem dX0_become_29 : decode cX0_become 29 = .ok (.getfield 18, 3) := o_180 (bg_dX0_become_24 5 180 rfl) (bg_dX0_become_24 6 0 rfl) (bg_dX0_become_24 7 18 rfl)
theorem dX0_become_32 : decode cX0_become 32 = .ok (.arraylength, 1) := o_190 (bg_dX0_become_24 8 190 rfl)
theorem dX0_become_33 : decode cX0_become 33 = .ok (.invokestatic 40, 3) := o_184 (bg_dX0_become_24 9 184 rfl) (bg_dX0_become_24 10 0 rfl) (bg_dX0_become_24 11 40 rfl)
theorem dX0_become_36 : decode cX0_become 36 = .ok (.aload_n 1, 1) := o_43 (bg_dX0_become_24 12 43 rfl)
theorem dX0_become_37 : decode cX0_become 37 = .ok (.getfield 21, 3) := o_180 (bg_dX0_become_24 13 180 rfl) (bg_dX0_become_24 14 0 rfl) (bg_dX0_become_24 15 21 rfl)
theorem dX0_become_40 : decode cX0_become 40 = .ok (.iconst 0, 1) := o_3 (bg_dX0_become_24 16 3 rfl)
theorem dX0_become_41 : decode cX0_become 41 = .ok (.aload_n 0, 1) := o_42 (bg_dX0_become_24 17 42 rfl)
theorem dX0_become_42 : decode cX0_become 42 = .ok (.getfield 21, 3) := o_180 (bg_dX0_become_24 18 180 rfl) (bg_dX0_become_24 19 0 rfl) (bg_dX0_become_24 20 21 rfl)
theorem dX0_become_45 : decode cX0_become 45 = .ok (.iconst 0, 1) := o_3 (bg_dX0_become_24 21 3 rfl)
theorem dX0_become_46 : decode cX0_become 46 = .ok (.aload_n 0, 1) := o_42 (bg_dX0_become_24 22 42 rfl)
theorem dX0_become_47 : decode cX0_become 47 = .ok (.getfield 21, 3) := o_180 (bg_dX0_become_24 23 180 rfl) (bg_dX0_become_24 24 0 rfl) (bg_dX0_become_24 25 21 rfl)
theorem bg_dX0_become_50 : bysAt cX0_become 50 [190, 184, 0, 40, 43, 180, 0, 24, 3, 42, 180, 0, 24, 3, 42, 180, 0, 24, 190, 184, 0, 40, 43, 180, 0, 27] := bysAt_of (by decide +kernel)
theorem dX0_become_50 : decode cX0_become 50 = .ok (.arraylength, 1) := o_190 (bg_dX0_become_50 0 190 rfl)
theorem dX0_become_51 : decode cX0_become 51 = .ok (.invokestatic 40, 3) := o_184 (bg_dX0_become_50 1 184 rfl) (bg_dX0_become_50 2 0 rfl) (bg_dX0_become_50 3 40 rfl)
theorem dX0_become_54 : decode cX0_become 54 = .ok (.aload_n 1, 1) := o_43 (bg_dX0_become_50 4 43 rfl)
theorem dX0_become_55 : decode cX0_become 55 = .ok (.getfield 24, 3) := o_180 (bg_dX0_become_50 5 180 rfl) (bg_dX0_become_50 6 0 rfl) (bg_dX0_become_50 7 24 rfl)
theorem dX0_become_58 : decode cX0_become 58 = .ok (.iconst 0, 1) := o_3 (bg_dX0_become_50 8 3 rfl)
theorem dX0_become_59 : decode cX0_become 59 = .ok (.aload_n 0, 1) := o_42 (bg_dX0_become_50 9 42 rfl)
theorem dX0_become_60 : decode cX0_become 60 = .ok (.getfield 24, 3) := o_180 (bg_dX0_become_50 10 180 rfl) (bg_dX0_become_50 11 0 rfl) (bg_dX0_become_50 12 24 rfl)
theorem dX0_become_63 : decode cX0_become 63 = .ok (.iconst 0, 1) := o_3 (bg_dX0_become_50 13 3 rfl)
theorem dX0_become_64 : decode cX0_become 64 = .ok (.aload_n 0, 1) := o_42 (bg_dX0_become_50 14 42 rfl)
theorem dX0_become_65 : decode cX0_become 65 = .ok (.getfield 24, 3) := o_180 (bg_dX0_become_50 15 180 rfl) (bg_dX0_become_50 16 0 rfl) (bg_dX0_become_50 17 24 rfl)
theorem dX0_become_68 : decode cX0_become 68 = .ok (.arraylength, 1) := o_190 (bg_dX0_become_50 18 190 rfl)
theorem dX0_become_69 : decode cX0_become 69 = .ok (.invokestatic 40, 3) := o_184 (bg_dX0_become_50 19 184 rfl) (bg_dX0_become_50 20 0 rfl) (bg_dX0_become_50 21 40 rfl)
theorem dX0_become_72 : decode cX0_become 72 = .ok (.aload_n 1, 1) := o_43 (bg_dX0_become_50 22 43 rfl)
theorem dX0_become_73 : decode cX0_become 73 = .ok (.getfield 27, 3) := o_180 (bg_dX0_become_50 23 180 rfl) (bg_dX0_become_50 24 0 rfl) (bg_dX0_become_50 25 27 rfl)
theorem bg_dX0_become_76 : bysAt cX0_become 76 [3, 42, 180, 0, 27, 3, 42, 180, 0, 27, 190, 184, 0, 40, 43, 180, 0, 30, 3, 42, 180, 0, 30, 3] := bysAt_of (by decide +kernel)
theorem dX0_become_76 : decode cX0_become 76 = .ok (.iconst 0, 1) := o_3 (bg_dX0_become_76 0 3 rfl)
theorem dX0_become_77 : decode cX0_become 77 = .ok (.aload_n 0, 1) := o_42 (bg_dX0_become_76 1 42 rfl)
theorem dX0_become_78 : decode cX0_become 78 = .ok (.getfield 27, 3) := o_180 (bg_dX0_become_76 2 180 rfl) (bg_dX0_become_76 3 0 rfl) (bg_dX0_become_76 4 27 rfl)
theorem dX0_become_81 : decode cX0_become 81 = .ok (.iconst 0, 1) := o_3 (bg_dX0_become_76 5 3 rfl)
theorem dX0_become_82 : decode cX0_become 82 = .ok (.aload_n 0, 1) := o_42 (bg_dX0_become_76 6 42 rfl)
theorem dX0_become_83 : decode cX0_become 83 = .ok (.getfield 27, 3) := o_180 (bg_dX0_become_76 7 180 rfl) (bg_dX0_become_76 8 0 rfl) (bg_dX0_become_76 9 27 rfl)
theorem dX0_become_86 : decode cX0_become 86 = .ok (.arraylength, 1) := o_190 (bg_dX0_become_76 10 190 rfl)
theorem dX0_become_87 : decode cX0_become 87 = .ok (.invokestatic 40, 3) := o_184 (bg_dX0_become_76 11 184 rfl) (bg_dX0_become_76 12 0 rfl) (bg_dX0_become_76 13 40 rfl)
theorem dX0_become_90 : decode cX0_become 90 = .ok (.aload_n 1, 1) := o_43 (bg_dX0_become_76 14 43 rfl)
theorem dX0_become_91 : decode cX0_become 91 = .ok (.getfield 30, 3) := o_180 (bg_dX0_become_76 15 180 rfl) (bg_dX0_become_76 16 0 rfl) (bg_dX0_become_76 17 30 rfl)
theorem dX0_become_94 : decode cX0_become 94 = .ok (.iconst 0, 1) := o_3 (bg_dX0_become_76 18 3 rfl)
theorem dX0_become_95 : decode cX0_become 95 = .ok (.aload_n 0, 1) := o_42 (bg_dX0_become_76 19 42 rfl)
theorem dX0_become_96 : decode cX0_become 96 = .ok (.getfield 30, 3) := o_180 (bg_dX0_become_76 20 180 rfl) (bg_dX0_become_76 21 0 rfl) (bg_dX0_become_76 22 30 rfl)
theorem dX0_become_99 : decode cX0_become 99 = .ok (.iconst 0, 1) := o_3 (bg_dX0_become_76 23 3 rfl)
theorem bg_dX0_become_100 : bysAt cX0_become 100 [42, 180, 0, 30, 190, 184, 0, 40, 43, 180, 0, 33, 3, 42, 180, 0, 33, 3, 42, 180, 0, 33, 190, 184, 0, 40] := bysAt_of (by decide +kernel)
theorem dX0_become_100 : decode cX0_become 100 = .ok (.aload_n 0, 1) := o_42 (bg_dX0_become_100 0 42 rfl)
theorem dX0_become_101 : decode cX0_become 101 = .ok (.getfield 30, 3) := o_180 (bg_dX0_become_100 1 180 rfl) (bg_dX0_become_100 2 0 rfl) (bg_dX0_become_100 3 30 rfl)
theorem dX0_become_104 : decode cX0_become 104 = .ok (.arraylength, 1) := o_190 (bg_dX0_become_100 4 190 rfl)
theorem dX0_become_105 : decode cX0_become 105 = .ok (.invokestatic 40, 3) := o_184 (bg_dX0_become_100 5 184 rfl) (bg_dX0_become_100 6 0 rfl) (bg_dX0_become_100 7 40 rfl)
theorem dX0_become_108 : decode cX0_become 108 = .ok (.aload_n 1, 1) := o_43 (bg_dX0_become_100 8 43 rfl)
theorem dX0_become_109 : decode cX0_become 109 = .ok (.getfield 33, 3) := o_180 (bg_dX0_become_100 9 180 rfl) (bg_dX0_become_100 10 0 rfl) (bg_dX0_become_100 11 33 rfl)
theorem dX0_become_112 : decode cX0_become 112 = .ok (.iconst 0, 1) := o_3 (bg_dX0_become_100 12 3 rfl)
theorem dX0_become_113 : decode cX0_become 113 = .ok (.aload_n 0, 1) := o_42 (bg_dX0_become_100 13 42 rfl)
theorem dX0_become_114 : decode cX0_become 114 = .ok (.getfield 33, 3) := o_180 (bg_dX0_become_100 14 180 rfl) (bg_dX0_become_100 15 0 rfl) (bg_dX0_become_100 16 33 rfl)
theorem dX0_become_117 : decode cX0_become 117 = .ok (.iconst 0, 1) := o_3 (bg_dX0_become_100 17 3 rfl)
theorem dX0_become_118 : decode cX0_become 118 = .ok (.aload_n 0, 1) := o_42 (bg_dX0_become_100 18 42 rfl)
theorem dX0_become_119 : decode cX0_become 119 = .ok (.getfield 33, 3) := o_180 (bg_dX0_become_100 19 180 rfl) (bg_dX0_become_100 20 0 rfl) (bg_dX0_become_100 21 33 rfl)
theorem dX0_become_122 : decode cX0_become 122 = .ok (.arraylength, 1) := o_190 (bg_dX0_become_100 22 190 rfl)
theorem dX0_become_123 : decode cX0_become 123 = .ok (.invokestatic 40, 3) := o_184 (bg_dX0_become_100 23 184 rfl) (bg_dX0_become_100 24 0 rfl) (bg_dX0_become_100 25 40 rfl)
theorem bg_dX0_become_126 : bysAt cX0_become 126 [42, 43, 180, 0, 36, 181, 0, 36, 177] := bysAt_of (by decide +kernel)
theorem dX0_become_126 : decode cX0_become 126 = .ok (.aload_n 0, 1) := o_42 (bg_dX0_become_126 0 42 rfl)
theorem dX0_become_127 : decode cX0_become 127 = .ok (.aload_n 1, 1) := o_43 (bg_dX0_become_126 1 43 rfl)
theorem dX0_become_128 : decode cX0_become 128 = .ok (.getfield 36, 3) := o_180 (bg_dX0_become_126 2 180 rfl) (bg_dX0_become_126 3 0 rfl) (bg_dX0_become_126 4 36 rfl)
theorem dX0_become_131 : decode cX0_become 131 = .ok (.putfield 36, 3) := o_181 (bg_dX0_become_126 5 181 rfl) (bg_dX0_become_126 6 0 rfl) (bg_dX0_become_126 7 36 rfl)
theorem dX0_become_134 : decode cX0_become 134 = .ok (.return_, 1) := o_177 (bg_dX0_become_126 8 177 rfl)
theorem bg_dX6_again_0 : bysAt cX6_again 0 [42, 27, 28, 29, 21, 4, 182, 0, 238, 153, 0, 14, 21, 5, 4, 16, 20, 184, 0, 66, 154, 0, 10, 42, 16, 254] := bysAt_of (by decide +kernel)
theorem dX6_again_0 : decode cX6_again 0 = .ok (.aload_n 0, 1) := o_42 (bg_dX6_again_0 0 42 rfl)
theorem dX6_again_1 : decode cX6_again 1 = .ok (.iload_n 1, 1) := o_27 (bg_dX6_again_0 1 27 rfl)
theorem dX6_again_2 : decode cX6_again 2 = .ok (.iload_n 2, 1) := o_28 (bg_dX6_again_0 2 28 rfl)
theorem dX6_again_3 : decode cX6_again 3 = .ok (.iload_n 3, 1) := o_29 (bg_dX6_again_0 3 29 rfl)
theorem dX6_again_4 : decode cX6_again 4 = .ok (.iload 4, 2) := o_21 (bg_dX6_again_0 4 21 rfl) (bg_dX6_again_0 5 4 rfl)
theorem dX6_again_6 : decode cX6_again 6 = .ok (.invokevirtual 238, 3) := o_182 (bg_dX6_again_0 6 182 rfl) (bg_dX6_again_0 7 0 rfl) (bg_dX6_again_0 8 238 rfl)
theorem dX6_again_9 : decode cX6_again 9 = .ok (.ifCond .eq 14, 3) := o_153 (bg_dX6_again_0 9 153 rfl) (bg_dX6_again_0 10 0 rfl) (bg_dX6_again_0 11 14 rfl) (by decide +kernel)
theorem dX6_again_12 : decode cX6_again 12 = .ok (.iload 5, 2) := o_21 (bg_dX6_again_0 12 21 rfl) (bg_dX6_again_0 13 5 rfl)
theorem dX6_again_14 : decode cX6_again 14 = .ok (.iconst 1, 1) := o_4 (bg_dX6_again_0 14 4 rfl)
theorem dX6_again_15 : decode cX6_again 15 = .ok (.bipush 20, 2) := o_16 (bg_dX6_again_0 15 16 rfl) (bg_dX6_again_0 16 20 rfl) (by decide +kernel)
theorem dX6_again_17 : decode cX6_again 17 = .ok (.invokestatic 66, 3) := o_184 (bg_dX6_again_0 17 184 rfl) (bg_dX6_again_0 18 0 rfl) (bg_dX6_again_0 19 66 rfl)
theorem dX6_again_20 : decode cX6_again 20 = .ok (.ifCond .ne 10, 3) := o_154 (bg_dX6_again_0 20 154 rfl) (bg_dX6_again_0 21 0 rfl) (bg_dX6_again_0 22 10 rfl) (by decide +kernel)
theorem dX6_again_23 : decode cX6_again 23 = .ok (.aload_n 0, 1) := o_42 (bg_dX6_again_0 23 42 rfl)
theorem dX6_again_24 : decode cX6_again 24 = .ok (.bipush (-2), 2) := o_16 (bg_dX6_again_0 24 16 rfl) (bg_dX6_again_0 25 254 rfl) (by decide +kernel)
theorem bg_dX6_again_26 : bysAt cX6_again 26 [182, 0, 70, 172, 42, 42, 180, 0, 28, 27, 28, 29, 21, 4, 21, 5, 182, 0, 242, 182, 0, 245, 172] := bysAt_of (by decide +kernel)
theorem dX6_again_26 : decode cX6_again 26 = .ok (.invokevirtual 70, 3) := o_182 (bg_dX6_again_26 0 182 rfl) (bg_dX6_again_26 1 0 rfl) (bg_dX6_again_26 2 70 rfl)
theorem dX6_again_29 : decode cX6_again 29 = .ok (.ireturn, 1) := o_172 (bg_dX6_again_26 3 172 rfl)
theorem dX6_again_30 : decode cX6_again 30 = .ok (.aload_n 0, 1) := o_42 (bg_dX6_again_26 4 42 rfl)
theorem dX6_again_31 : decode cX6_again 31 = .ok (.aload_n 0, 1) := o_42 (bg_dX6_again_26 5 42 rfl)
theorem dX6_again_32 : decode cX6_again 32 = .ok (.getfield 28, 3) := o_180 (bg_dX6_again_26 6 180 rfl) (bg_dX6_again_26 7 0 rfl) (bg_dX6_again_26 8 28 rfl)
theorem dX6_again_35 : decode cX6_again 35 = .ok (.iload_n 1, 1) := o_27 (bg_dX6_again_26 9 27 rfl)
theorem dX6_again_36 : decode cX6_again 36 = .ok (.iload_n 2, 1) := o_28 (bg_dX6_again_26 10 28 rfl)
theorem dX6_again_37 : decode cX6_again 37 = .ok (.iload_n 3, 1) := o_29 (bg_dX6_again_26 11 29 rfl)
theorem dX6_again_38 : decode cX6_again 38 = .ok (.iload 4, 2) := o_21 (bg_dX6_again_26 12 21 rfl) (bg_dX6_again_26 13 4 rfl)
theorem dX6_again_40 : decode cX6_again 40 = .ok (.iload 5, 2) := o_21 (bg_dX6_again_26 14 21 rfl) (bg_dX6_again_26 15 5 rfl)
theorem dX6_again_42 : decode cX6_again 42 = .ok (.invokevirtual 242, 3) := o_182 (bg_dX6_again_26 16 182 rfl) (bg_dX6_again_26 17 0 rfl) (bg_dX6_again_26 18 242 rfl)
theorem dX6_again_45 : decode cX6_again 45 = .ok (.invokevirtual 245, 3) := o_182 (bg_dX6_again_26 19 182 rfl) (bg_dX6_again_26 20 0 rfl) (bg_dX6_again_26 21 245 rfl)
theorem dX6_again_48 : decode cX6_again 48 = .ok (.ireturn, 1) := o_172 (bg_dX6_again_26 22 172 rfl)
theorem bg_dX6_back_0 : bysAt cX6_back 0 [42, 180, 0, 19, 154, 0, 10, 42, 16, 251, 182, 0, 70, 172, 42, 180, 0, 10, 42, 180, 0, 16, 182, 1, 58, 42, 180, 0, 35] := bysAt_of (by decide +kernel)
theorem dX6_back_0 : decode cX6_back 0 = .ok (.aload_n 0, 1) := o_42 (bg_dX6_back_0 0 42 rfl)
theorem dX6_back_1 : decode cX6_back 1 = .ok (.getfield 19, 3) := o_180 (bg_dX6_back_0 1 180 rfl) (bg_dX6_back_0 2 0 rfl) (bg_dX6_back_0 3 19 rfl)
theorem dX6_back_4 : decode cX6_back 4 = .ok (.ifCond .ne 10, 3) := o_154 (bg_dX6_back_0 4 154 rfl) (bg_dX6_back_0 5 0 rfl) (bg_dX6_back_0 6 10 rfl) (by decide +kernel)
theorem dX6_back_7 : decode cX6_back 7 = .ok (.aload_n 0, 1) := o_42 (bg_dX6_back_0 7 42 rfl)
theorem dX6_back_8 : decode cX6_back 8 = .ok (.bipush (-5), 2) := o_16 (bg_dX6_back_0 8 16 rfl) (bg_dX6_back_0 9 251 rfl) (by decide +kernel)
theorem dX6_back_10 : decode cX6_back 10 = .ok (.invokevirtual 70, 3) := o_182 (bg_dX6_back_0 10 182 rfl) (bg_dX6_back_0 11 0 rfl) (bg_dX6_back_0 12 70 rfl)
theorem dX6_back_13 : decode cX6_back 13 = .ok (.ireturn, 1) := o_172 (bg_dX6_back_0 13 172 rfl)
theorem dX6_back_14 : decode cX6_back 14 = .ok (.aload_n 0, 1) := o_42 (bg_dX6_back_0 14 42 rfl)
theorem dX6_back_15 : decode cX6_back 15 = .ok (.getfield 10, 3) := o_180 (bg_dX6_back_0 15 180 rfl) (bg_dX6_back_0 16 0 rfl) (bg_dX6_back_0 17 10 rfl)
theorem dX6_back_18 : decode cX6_back 18 = .ok (.aload_n 0, 1) := o_42 (bg_dX6_back_0 18 42 rfl)
theorem dX6_back_19 : decode cX6_back 19 = .ok (.getfield 16, 3) := o_180 (bg_dX6_back_0 19 180 rfl) (bg_dX6_back_0 20 0 rfl) (bg_dX6_back_0 21 16 rfl)
theorem dX6_back_22 : decode cX6_back 22 = .ok (.invokevirtual 314, 3) := o_182 (bg_dX6_back_0 22 182 rfl) (bg_dX6_back_0 23 1 rfl) (bg_dX6_back_0 24 58 rfl)
theorem dX6_back_25 : decode cX6_back 25 = .ok (.aload_n 0, 1) := o_42 (bg_dX6_back_0 25 42 rfl)
theorem dX6_back_26 : decode cX6_back 26 = .ok (.getfield 35, 3) := o_180 (bg_dX6_back_0 26 180 rfl) (bg_dX6_back_0 27 0 rfl) (bg_dX6_back_0 28 35 rfl)
theorem bg_dX6_back_29 : bysAt cX6_back 29 [42, 180, 0, 10, 180, 1, 17, 4, 46, 182, 1, 61, 4, 172] := bysAt_of (by decide +kernel)
theorem dX6_back_29 : decode cX6_back 29 = .ok (.aload_n 0, 1) := o_42 (bg_dX6_back_29 0 42 rfl)
theorem dX6_back_30 : decode cX6_back 30 = .ok (.getfield 10, 3) := o_180 (bg_dX6_back_29 1 180 rfl) (bg_dX6_back_29 2 0 rfl) (bg_dX6_back_29 3 10 rfl)
theorem dX6_back_33 : decode cX6_back 33 = .ok (.getfield 273, 3) := o_180 (bg_dX6_back_29 4 180 rfl) (bg_dX6_back_29 5 1 rfl) (bg_dX6_back_29 6 17 rfl)
theorem dX6_back_36 : decode cX6_back 36 = .ok (.iconst 1, 1) := o_4 (bg_dX6_back_29 7 4 rfl)
theorem dX6_back_37 : decode cX6_back 37 = .ok (.iaload, 1) := o_46 (bg_dX6_back_29 8 46 rfl)
theorem dX6_back_38 : decode cX6_back 38 = .ok (.invokevirtual 317, 3) := o_182 (bg_dX6_back_29 9 182 rfl) (bg_dX6_back_29 10 1 rfl) (bg_dX6_back_29 11 61 rfl)
theorem dX6_back_41 : decode cX6_back 41 = .ok (.iconst 1, 1) := o_4 (bg_dX6_back_29 12 4 rfl)
theorem dX6_back_42 : decode cX6_back 42 = .ok (.ireturn, 1) := o_172 (bg_dX6_back_29 13 172 rfl)
theorem bg_dX6_begin_0 : bysAt cX6_begin 0 [42, 27, 28, 29, 21, 4, 182, 0, 238, 154, 0, 10, 42, 16, 254, 182, 0, 70, 172, 42, 180, 0, 28, 180, 0, 203] := bysAt_of (by decide +kernel)
theorem dX6_begin_0 : decode cX6_begin 0 = .ok (.aload_n 0, 1) := o_42 (bg_dX6_begin_0 0 42 rfl)
theorem dX6_begin_1 : decode cX6_begin 1 = .ok (.iload_n 1, 1) := o_27 (bg_dX6_begin_0 1 27 rfl)
theorem dX6_begin_2 : decode cX6_begin 2 = .ok (.iload_n 2, 1) := o_28 (bg_dX6_begin_0 2 28 rfl)
theorem dX6_begin_3 : decode cX6_begin 3 = .ok (.iload_n 3, 1) := o_29 (bg_dX6_begin_0 3 29 rfl)
theorem dX6_begin_4 : decode cX6_begin 4 = .ok (.iload 4, 2) := o_21 (bg_dX6_begin_0 4 21 rfl) (bg_dX6_begin_0 5 4 rfl)
theorem dX6_begin_6 : decode cX6_begin 6 = .ok (.invokevirtual 238, 3) := o_182 (bg_dX6_begin_0 6 182 rfl) (bg_dX6_begin_0 7 0 rfl) (bg_dX6_begin_0 8 238 rfl)
theorem dX6_begin_9 : decode cX6_begin 9 = .ok (.ifCond .ne 10, 3) := o_154 (bg_dX6_begin_0 9 154 rfl) (bg_dX6_begin_0 10 0 rfl) (bg_dX6_begin_0 11 10 rfl) (by decide +kernel)
theorem dX6_begin_12 : decode cX6_begin 12 = .ok (.aload_n 0, 1) := o_42 (bg_dX6_begin_0 12 42 rfl)
theorem dX6_begin_13 : decode cX6_begin 13 = .ok (.bipush (-2), 2) := o_16 (bg_dX6_begin_0 13 16 rfl) (bg_dX6_begin_0 14 254 rfl) (by decide +kernel)
theorem dX6_begin_15 : decode cX6_begin 15 = .ok (.invokevirtual 70, 3) := o_182 (bg_dX6_begin_0 15 182 rfl) (bg_dX6_begin_0 16 0 rfl) (bg_dX6_begin_0 17 70 rfl)
theorem dX6_begin_18 : decode cX6_begin 18 = .ok (.ireturn, 1) := o_172 (bg_dX6_begin_0 18 172 rfl)
theorem dX6_begin_19 : decode cX6_begin 19 = .ok (.aload_n 0, 1) := o_42 (bg_dX6_begin_0 19 42 rfl)
theorem dX6_begin_20 : decode cX6_begin 20 = .ok (.getfield 28, 3) := o_180 (bg_dX6_begin_0 20 180 rfl) (bg_dX6_begin_0 21 0 rfl) (bg_dX6_begin_0 22 28 rfl)
theorem dX6_begin_23 : decode cX6_begin 23 = .ok (.getfield 203, 3) := o_180 (bg_dX6_begin_0 23 180 rfl) (bg_dX6_begin_0 24 0 rfl) (bg_dX6_begin_0 25 203 rfl)
theorem bg_dX6_begin_26 : bysAt cX6_begin 26 [42, 180, 0, 10, 27, 28, 182, 0, 207, 42, 180, 0, 10, 27, 28, 29, 21, 4, 42, 180, 0, 28, 180, 0, 203] := bysAt_of (by decide +kernel)
theorem dX6_begin_26 : decode cX6_begin 26 = .ok (.aload_n 0, 1) := o_42 (bg_dX6_begin_26 0 42 rfl)
theorem dX6_begin_27 : decode cX6_begin 27 = .ok (.getfield 10, 3) := o_180 (bg_dX6_begin_26 1 180 rfl) (bg_dX6_begin_26 2 0 rfl) (bg_dX6_begin_26 3 10 rfl)
theorem dX6_begin_30 : decode cX6_begin 30 = .ok (.iload_n 1, 1) := o_27 (bg_dX6_begin_26 4 27 rfl)
theorem dX6_begin_31 : decode cX6_begin 31 = .ok (.iload_n 2, 1) := o_28 (bg_dX6_begin_26 5 28 rfl)
theorem dX6_begin_32 : decode cX6_begin 32 = .ok (.invokevirtual 207, 3) := o_182 (bg_dX6_begin_26 6 182 rfl) (bg_dX6_begin_26 7 0 rfl) (bg_dX6_begin_26 8 207 rfl)
theorem dX6_begin_35 : decode cX6_begin 35 = .ok (.aload_n 0, 1) := o_42 (bg_dX6_begin_26 9 42 rfl)
theorem dX6_begin_36 : decode cX6_begin 36 = .ok (.getfield 10, 3) := o_180 (bg_dX6_begin_26 10 180 rfl) (bg_dX6_begin_26 11 0 rfl) (bg_dX6_begin_26 12 10 rfl)
theorem dX6_begin_39 : decode cX6_begin 39 = .ok (.iload_n 1, 1) := o_27 (bg_dX6_begin_26 13 27 rfl)
theorem dX6_begin_40 : decode cX6_begin 40 = .ok (.iload_n 2, 1) := o_28 (bg_dX6_begin_26 14 28 rfl)
theorem dX6_begin_41 : decode cX6_begin 41 = .ok (.iload_n 3, 1) := o_29 (bg_dX6_begin_26 15 29 rfl)
theorem dX6_begin_42 : decode cX6_begin 42 = .ok (.iload 4, 2) := o_21 (bg_dX6_begin_26 16 21 rfl) (bg_dX6_begin_26 17 4 rfl)
theorem dX6_begin_44 : decode cX6_begin 44 = .ok (.aload_n 0, 1) := o_42 (bg_dX6_begin_26 18 42 rfl)
theorem dX6_begin_45 : decode cX6_begin 45 = .ok (.getfield 28, 3) := o_180 (bg_dX6_begin_26 19 180 rfl) (bg_dX6_begin_26 20 0 rfl) (bg_dX6_begin_26 21 28 rfl)
theorem dX6_begin_48 : decode cX6_begin 48 = .ok (.getfield 203, 3) := o_180 (bg_dX6_begin_26 22 180 rfl) (bg_dX6_begin_26 23 0 rfl) (bg_dX6_begin_26 24 203 rfl)
theorem bg_dX6_begin_51 : bysAt cX6_begin 51 [180, 1, 39, 182, 1, 42, 4, 172] := bysAt_of (by decide +kernel)
theorem dX6_begin_51 : decode cX6_begin 51 = .ok (.getfield 295, 3) := o_180 (bg_dX6_begin_51 0 180 rfl) (bg_dX6_begin_51 1 1 rfl) (bg_dX6_begin_51 2 39 rfl)
theorem dX6_begin_54 : decode cX6_begin 54 = .ok (.invokevirtual 298, 3) := o_182 (bg_dX6_begin_51 3 182 rfl) (bg_dX6_begin_51 4 1 rfl) (bg_dX6_begin_51 5 42 rfl)
theorem dX6_begin_57 : decode cX6_begin 57 = .ok (.iconst 1, 1) := o_4 (bg_dX6_begin_51 6 4 rfl)
theorem dX6_begin_58 : decode cX6_begin 58 = .ok (.ireturn, 1) := o_172 (bg_dX6_begin_51 7 172 rfl)
theorem bg_dX6_best_0 : bysAt cX6_best 0 [27, 184, 0, 126, 153, 0, 19, 28, 184, 0, 126, 153, 0, 12, 29, 3, 5, 184, 0, 66, 154, 0, 10, 42, 16, 254, 182, 0, 70] := bysAt_of (by decide +kernel)
theorem dX6_best_0 : decode cX6_best 0 = .ok (.iload_n 1, 1) := o_27 (bg_dX6_best_0 0 27 rfl)
theorem dX6_best_1 : decode cX6_best 1 = .ok (.invokestatic 126, 3) := o_184 (bg_dX6_best_0 1 184 rfl) (bg_dX6_best_0 2 0 rfl) (bg_dX6_best_0 3 126 rfl)
theorem dX6_best_4 : decode cX6_best 4 = .ok (.ifCond .eq 19, 3) := o_153 (bg_dX6_best_0 4 153 rfl) (bg_dX6_best_0 5 0 rfl) (bg_dX6_best_0 6 19 rfl) (by decide +kernel)
theorem dX6_best_7 : decode cX6_best 7 = .ok (.iload_n 2, 1) := o_28 (bg_dX6_best_0 7 28 rfl)
theorem dX6_best_8 : decode cX6_best 8 = .ok (.invokestatic 126, 3) := o_184 (bg_dX6_best_0 8 184 rfl) (bg_dX6_best_0 9 0 rfl) (bg_dX6_best_0 10 126 rfl)
theorem dX6_best_11 : decode cX6_best 11 = .ok (.ifCond .eq 12, 3) := o_153 (bg_dX6_best_0 11 153 rfl) (bg_dX6_best_0 12 0 rfl) (bg_dX6_best_0 13 12 rfl) (by decide +kernel)
theorem dX6_best_14 : decode cX6_best 14 = .ok (.iload_n 3, 1) := o_29 (bg_dX6_best_0 14 29 rfl)
theorem dX6_best_15 : decode cX6_best 15 = .ok (.iconst 0, 1) := o_3 (bg_dX6_best_0 15 3 rfl)
theorem dX6_best_16 : decode cX6_best 16 = .ok (.iconst 2, 1) := o_5 (bg_dX6_best_0 16 5 rfl)
theorem dX6_best_17 : decode cX6_best 17 = .ok (.invokestatic 66, 3) := o_184 (bg_dX6_best_0 17 184 rfl) (bg_dX6_best_0 18 0 rfl) (bg_dX6_best_0 19 66 rfl)
theorem dX6_best_20 : decode cX6_best 20 = .ok (.ifCond .ne 10, 3) := o_154 (bg_dX6_best_0 20 154 rfl) (bg_dX6_best_0 21 0 rfl) (bg_dX6_best_0 22 10 rfl) (by decide +kernel)
theorem dX6_best_23 : decode cX6_best 23 = .ok (.aload_n 0, 1) := o_42 (bg_dX6_best_0 23 42 rfl)
theorem dX6_best_24 : decode cX6_best 24 = .ok (.bipush (-2), 2) := o_16 (bg_dX6_best_0 24 16 rfl) (bg_dX6_best_0 25 254 rfl) (by decide +kernel)
theorem dX6_best_26 : decode cX6_best 26 = .ok (.invokevirtual 70, 3) := o_182 (bg_dX6_best_0 26 182 rfl) (bg_dX6_best_0 27 0 rfl) (bg_dX6_best_0 28 70 rfl)
theorem bg_dX6_best_29 : bysAt cX6_best 29 [172, 42, 27, 28, 182, 0, 252, 42, 180, 0, 59, 5, 46, 18, 255, 160, 0, 12, 42, 16, 251, 182, 0, 70] := bysAt_of (by decide +kernel)
theorem dX6_best_29 : decode cX6_best 29 = .ok (.ireturn, 1) := o_172 (bg_dX6_best_29 0 172 rfl)
theorem dX6_best_30 : decode cX6_best 30 = .ok (.aload_n 0, 1) := o_42 (bg_dX6_best_29 1 42 rfl)
theorem dX6_best_31 : decode cX6_best 31 = .ok (.iload_n 1, 1) := o_27 (bg_dX6_best_29 2 27 rfl)
theorem dX6_best_32 : decode cX6_best 32 = .ok (.iload_n 2, 1) := o_28 (bg_dX6_best_29 3 28 rfl)
theorem dX6_best_33 : decode cX6_best 33 = .ok (.invokevirtual 252, 3) := o_182 (bg_dX6_best_29 4 182 rfl) (bg_dX6_best_29 5 0 rfl) (bg_dX6_best_29 6 252 rfl)
theorem dX6_best_36 : decode cX6_best 36 = .ok (.aload_n 0, 1) := o_42 (bg_dX6_best_29 7 42 rfl)
theorem dX6_best_37 : decode cX6_best 37 = .ok (.getfield 59, 3) := o_180 (bg_dX6_best_29 8 180 rfl) (bg_dX6_best_29 9 0 rfl) (bg_dX6_best_29 10 59 rfl)
theorem dX6_best_40 : decode cX6_best 40 = .ok (.iconst 2, 1) := o_5 (bg_dX6_best_29 11 5 rfl)
theorem dX6_best_41 : decode cX6_best 41 = .ok (.iaload, 1) := o_46 (bg_dX6_best_29 12 46 rfl)
theorem dX6_best_42 : decode cX6_best 42 = .ok (.ldc 255, 2) := o_18 (bg_dX6_best_29 13 18 rfl) (bg_dX6_best_29 14 255 rfl)
theorem dX6_best_44 : decode cX6_best 44 = .ok (.if_icmp .ne 12, 3) := o_160 (bg_dX6_best_29 15 160 rfl) (bg_dX6_best_29 16 0 rfl) (bg_dX6_best_29 17 12 rfl) (by decide +kernel)
theorem dX6_best_47 : decode cX6_best 47 = .ok (.aload_n 0, 1) := o_42 (bg_dX6_best_29 18 42 rfl)
theorem dX6_best_48 : decode cX6_best 48 = .ok (.bipush (-5), 2) := o_16 (bg_dX6_best_29 19 16 rfl) (bg_dX6_best_29 20 251 rfl) (by decide +kernel)
theorem dX6_best_50 : decode cX6_best 50 = .ok (.invokevirtual 70, 3) := o_182 (bg_dX6_best_29 21 182 rfl) (bg_dX6_best_29 22 0 rfl) (bg_dX6_best_29 23 70 rfl)
theorem bg_dX6_best_53 : bysAt cX6_best 53 [167, 0, 9, 42, 180, 0, 59, 29, 46, 172] := bysAt_of (by decide +kernel)
theorem dX6_best_53 : decode cX6_best 53 = .ok (.goto 9, 3) := o_167 (bg_dX6_best_53 0 167 rfl) (bg_dX6_best_53 1 0 rfl) (bg_dX6_best_53 2 9 rfl) (by decide +kernel)
theorem dX6_best_56 : decode cX6_best 56 = .ok (.aload_n 0, 1) := o_42 (bg_dX6_best_53 3 42 rfl)
theorem dX6_best_57 : decode cX6_best 57 = .ok (.getfield 59, 3) := o_180 (bg_dX6_best_53 4 180 rfl) (bg_dX6_best_53 5 0 rfl) (bg_dX6_best_53 6 59 rfl)
theorem dX6_best_60 : decode cX6_best 60 = .ok (.iload_n 3, 1) := o_29 (bg_dX6_best_53 7 29 rfl)
theorem dX6_best_61 : decode cX6_best 61 = .ok (.iaload, 1) := o_46 (bg_dX6_best_53 8 46 rfl)
theorem dX6_best_62 : decode cX6_best 62 = .ok (.ireturn, 1) := o_172 (bg_dX6_best_53 9 172 rfl)
theorem bg_dX6_cheapest_0 : bysAt cX6_cheapest 0 [42, 27, 28, 29, 21, 4, 182, 0, 238, 154, 0, 10, 42, 16, 254, 182, 0, 70, 172, 42, 42, 180, 0, 28] := bysAt_of (by decide +kernel)
theorem dX6_cheapest_0 : decode cX6_cheapest 0 = .ok (.aload_n 0, 1) := o_42 (bg_dX6_cheapest_0 0 42 rfl)
theorem dX6_cheapest_1 : decode cX6_cheapest 1 = .ok (.iload_n 1, 1) := o_27 (bg_dX6_cheapest_0 1 27 rfl)
theorem dX6_cheapest_2 : decode cX6_cheapest 2 = .ok (.iload_n 2, 1) := o_28 (bg_dX6_cheapest_0 2 28 rfl)
theorem dX6_cheapest_3 : decode cX6_cheapest 3 = .ok (.iload_n 3, 1) := o_29 (bg_dX6_cheapest_0 3 29 rfl)
theorem dX6_cheapest_4 : decode cX6_cheapest 4 = .ok (.iload 4, 2) := o_21 (bg_dX6_cheapest_0 4 21 rfl) (bg_dX6_cheapest_0 5 4 rfl)
theorem dX6_cheapest_6 : decode cX6_cheapest 6 = .ok (.invokevirtual 238, 3) := o_182 (bg_dX6_cheapest_0 6 182 rfl) (bg_dX6_cheapest_0 7 0 rfl) (bg_dX6_cheapest_0 8 238 rfl)
theorem dX6_cheapest_9 : decode cX6_cheapest 9 = .ok (.ifCond .ne 10, 3) := o_154 (bg_dX6_cheapest_0 9 154 rfl) (bg_dX6_cheapest_0 10 0 rfl) (bg_dX6_cheapest_0 11 10 rfl) (by decide +kernel)
theorem dX6_cheapest_12 : decode cX6_cheapest 12 = .ok (.aload_n 0, 1) := o_42 (bg_dX6_cheapest_0 12 42 rfl)
theorem dX6_cheapest_13 : decode cX6_cheapest 13 = .ok (.bipush (-2), 2) := o_16 (bg_dX6_cheapest_0 13 16 rfl) (bg_dX6_cheapest_0 14 254 rfl) (by decide +kernel)
theorem dX6_cheapest_15 : decode cX6_cheapest 15 = .ok (.invokevirtual 70, 3) := o_182 (bg_dX6_cheapest_0 15 182 rfl) (bg_dX6_cheapest_0 16 0 rfl) (bg_dX6_cheapest_0 17 70 rfl)
theorem dX6_cheapest_18 : decode cX6_cheapest 18 = .ok (.ireturn, 1) := o_172 (bg_dX6_cheapest_0 18 172 rfl)
theorem dX6_cheapest_19 : decode cX6_cheapest 19 = .ok (.aload_n 0, 1) := o_42 (bg_dX6_cheapest_0 19 42 rfl)
theorem dX6_cheapest_20 : decode cX6_cheapest 20 = .ok (.aload_n 0, 1) := o_42 (bg_dX6_cheapest_0 20 42 rfl)
theorem dX6_cheapest_21 : decode cX6_cheapest 21 = .ok (.getfield 28, 3) := o_180 (bg_dX6_cheapest_0 21 180 rfl) (bg_dX6_cheapest_0 22 0 rfl) (bg_dX6_cheapest_0 23 28 rfl)
theorem bg_dX6_cheapest_24 : bysAt cX6_cheapest 24 [27, 28, 29, 21, 4, 4, 182, 0, 242, 182, 0, 245, 172] := bysAt_of (by decide +kernel)
theorem dX6_cheapest_24 : decode cX6_cheapest 24 = .ok (.iload_n 1, 1) := o_27 (bg_dX6_cheapest_24 0 27 rfl)
theorem dX6_cheapest_25 : decode cX6_cheapest 25 = .ok (.iload_n 2, 1) := o_28 (bg_dX6_cheapest_24 1 28 rfl)
theorem dX6_cheapest_26 : decode cX6_cheapest 26 = .ok (.iload_n 3, 1) := o_29 (bg_dX6_cheapest_24 2 29 rfl)
theorem dX6_cheapest_27 : decode cX6_cheapest 27 = .ok (.iload 4, 2) := o_21 (bg_dX6_cheapest_24 3 21 rfl) (bg_dX6_cheapest_24 4 4 rfl)
theorem dX6_cheapest_29 : decode cX6_cheapest 29 = .ok (.iconst 1, 1) := o_4 (bg_dX6_cheapest_24 5 4 rfl)
theorem dX6_cheapest_30 : decode cX6_cheapest 30 = .ok (.invokevirtual 242, 3) := o_182 (bg_dX6_cheapest_24 6 182 rfl) (bg_dX6_cheapest_24 7 0 rfl) (bg_dX6_cheapest_24 8 242 rfl)
theorem dX6_cheapest_33 : decode cX6_cheapest 33 = .ok (.invokevirtual 245, 3) := o_182 (bg_dX6_cheapest_24 9 182 rfl) (bg_dX6_cheapest_24 10 0 rfl) (bg_dX6_cheapest_24 11 245 rfl)
theorem dX6_cheapest_36 : decode cX6_cheapest 36 = .ok (.ireturn, 1) := o_172 (bg_dX6_cheapest_24 12 172 rfl)
theorem bg_dX6_fewest_0 : bysAt cX6_fewest 0 [42, 27, 182, 0, 194, 153, 0, 17, 28, 184, 0, 126, 153, 0, 10, 29, 184, 0, 126, 154, 0, 10, 42, 16, 254, 182, 0, 70, 172] := bysAt_of (by decide +kernel)
theorem dX6_fewest_0 : decode cX6_fewest 0 = .ok (.aload_n 0, 1) := o_42 (bg_dX6_fewest_0 0 42 rfl)
theorem dX6_fewest_1 : decode cX6_fewest 1 = .ok (.iload_n 1, 1) := o_27 (bg_dX6_fewest_0 1 27 rfl)
theorem dX6_fewest_2 : decode cX6_fewest 2 = .ok (.invokevirtual 194, 3) := o_182 (bg_dX6_fewest_0 2 182 rfl) (bg_dX6_fewest_0 3 0 rfl) (bg_dX6_fewest_0 4 194 rfl)
theorem dX6_fewest_5 : decode cX6_fewest 5 = .ok (.ifCond .eq 17, 3) := o_153 (bg_dX6_fewest_0 5 153 rfl) (bg_dX6_fewest_0 6 0 rfl) (bg_dX6_fewest_0 7 17 rfl) (by decide +kernel)
theorem dX6_fewest_8 : decode cX6_fewest 8 = .ok (.iload_n 2, 1) := o_28 (bg_dX6_fewest_0 8 28 rfl)
theorem dX6_fewest_9 : decode cX6_fewest 9 = .ok (.invokestatic 126, 3) := o_184 (bg_dX6_fewest_0 9 184 rfl) (bg_dX6_fewest_0 10 0 rfl) (bg_dX6_fewest_0 11 126 rfl)
theorem dX6_fewest_12 : decode cX6_fewest 12 = .ok (.ifCond .eq 10, 3) := o_153 (bg_dX6_fewest_0 12 153 rfl) (bg_dX6_fewest_0 13 0 rfl) (bg_dX6_fewest_0 14 10 rfl) (by decide +kernel)
theorem dX6_fewest_15 : decode cX6_fewest 15 = .ok (.iload_n 3, 1) := o_29 (bg_dX6_fewest_0 15 29 rfl)
theorem dX6_fewest_16 : decode cX6_fewest 16 = .ok (.invokestatic 126, 3) := o_184 (bg_dX6_fewest_0 16 184 rfl) (bg_dX6_fewest_0 17 0 rfl) (bg_dX6_fewest_0 18 126 rfl)
theorem dX6_fewest_19 : decode cX6_fewest 19 = .ok (.ifCond .ne 10, 3) := o_154 (bg_dX6_fewest_0 19 154 rfl) (bg_dX6_fewest_0 20 0 rfl) (bg_dX6_fewest_0 21 10 rfl) (by decide +kernel)
theorem dX6_fewest_22 : decode cX6_fewest 22 = .ok (.aload_n 0, 1) := o_42 (bg_dX6_fewest_0 22 42 rfl)
theorem dX6_fewest_23 : decode cX6_fewest 23 = .ok (.bipush (-2), 2) := o_16 (bg_dX6_fewest_0 23 16 rfl) (bg_dX6_fewest_0 24 254 rfl) (by decide +kernel)
theorem dX6_fewest_25 : decode cX6_fewest 25 = .ok (.invokevirtual 70, 3) := o_182 (bg_dX6_fewest_0 25 182 rfl) (bg_dX6_fewest_0 26 0 rfl) (bg_dX6_fewest_0 27 70 rfl)
theorem dX6_fewest_28 : decode cX6_fewest 28 = .ok (.ireturn, 1) := o_172 (bg_dX6_fewest_0 28 172 rfl)
theorem bg_dX6_fewest_29 : bysAt cX6_fewest 29 [2, 54, 4, 178, 1, 23, 6, 46, 4, 96, 54, 5, 3, 54, 6, 21, 6, 42, 180, 0, 10, 182, 1, 26] := bysAt_of (by decide +kernel)
theorem dX6_fewest_29 : decode cX6_fewest 29 = .ok (.iconst (-1), 1) := o_2 (bg_dX6_fewest_29 0 2 rfl)
theorem dX6_fewest_30 : decode cX6_fewest 30 = .ok (.istore 4, 2) := o_54 (bg_dX6_fewest_29 1 54 rfl) (bg_dX6_fewest_29 2 4 rfl)
theorem dX6_fewest_32 : decode cX6_fewest 32 = .ok (.getstatic 279, 3) := o_178 (bg_dX6_fewest_29 3 178 rfl) (bg_dX6_fewest_29 4 1 rfl) (bg_dX6_fewest_29 5 23 rfl)
theorem dX6_fewest_35 : decode cX6_fewest 35 = .ok (.iconst 3, 1) := o_6 (bg_dX6_fewest_29 6 6 rfl)
theorem dX6_fewest_36 : decode cX6_fewest 36 = .ok (.iaload, 1) := o_46 (bg_dX6_fewest_29 7 46 rfl)
theorem dX6_fewest_37 : decode cX6_fewest 37 = .ok (.iconst 1, 1) := o_4 (bg_dX6_fewest_29 8 4 rfl)
theorem dX6_fewest_38 : decode cX6_fewest 38 = .ok (.iadd, 1) := o_96 (bg_dX6_fewest_29 9 96 rfl)
theorem dX6_fewest_39 : decode cX6_fewest 39 = .ok (.istore 5, 2) := o_54 (bg_dX6_fewest_29 10 54 rfl) (bg_dX6_fewest_29 11 5 rfl)
theorem dX6_fewest_41 : decode cX6_fewest 41 = .ok (.iconst 0, 1) := o_3 (bg_dX6_fewest_29 12 3 rfl)
theorem dX6_fewest_42 : decode cX6_fewest 42 = .ok (.istore 6, 2) := o_54 (bg_dX6_fewest_29 13 54 rfl) (bg_dX6_fewest_29 14 6 rfl)
theorem dX6_fewest_44 : decode cX6_fewest 44 = .ok (.iload 6, 2) := o_21 (bg_dX6_fewest_29 15 21 rfl) (bg_dX6_fewest_29 16 6 rfl)
theorem dX6_fewest_46 : decode cX6_fewest 46 = .ok (.aload_n 0, 1) := o_42 (bg_dX6_fewest_29 17 42 rfl)
theorem dX6_fewest_47 : decode cX6_fewest 47 = .ok (.getfield 10, 3) := o_180 (bg_dX6_fewest_29 18 180 rfl) (bg_dX6_fewest_29 19 0 rfl) (bg_dX6_fewest_29 20 10 rfl)
theorem dX6_fewest_50 : decode cX6_fewest 50 = .ok (.invokevirtual 282, 3) := o_182 (bg_dX6_fewest_29 21 182 rfl) (bg_dX6_fewest_29 22 1 rfl) (bg_dX6_fewest_29 23 26 rfl)
theorem bg_dX6_fewest_53 : bysAt cX6_fewest 53 [162, 0, 45, 21, 6, 184, 1, 9, 21, 5, 162, 0, 29, 42, 180, 0, 28, 27, 21, 6, 28, 29, 182, 1, 29, 153, 0, 14, 21, 6] := bysAt_of (by decide +kernel)
theorem dX6_fewest_53 : decode cX6_fewest 53 = .ok (.if_icmp .ge 45, 3) := o_162 (bg_dX6_fewest_53 0 162 rfl) (bg_dX6_fewest_53 1 0 rfl) (bg_dX6_fewest_53 2 45 rfl) (by decide +kernel)
theorem dX6_fewest_56 : decode cX6_fewest 56 = .ok (.iload 6, 2) := o_21 (bg_dX6_fewest_53 3 21 rfl) (bg_dX6_fewest_53 4 6 rfl)
theorem dX6_fewest_58 : decode cX6_fewest 58 = .ok (.invokestatic 265, 3) := o_184 (bg_dX6_fewest_53 5 184 rfl) (bg_dX6_fewest_53 6 1 rfl) (bg_dX6_fewest_53 7 9 rfl)
theorem dX6_fewest_61 : decode cX6_fewest 61 = .ok (.iload 5, 2) := o_21 (bg_dX6_fewest_53 8 21 rfl) (bg_dX6_fewest_53 9 5 rfl)
theorem dX6_fewest_63 : decode cX6_fewest 63 = .ok (.if_icmp .ge 29, 3) := o_162 (bg_dX6_fewest_53 10 162 rfl) (bg_dX6_fewest_53 11 0 rfl) (bg_dX6_fewest_53 12 29 rfl) (by decide +kernel)
theorem dX6_fewest_66 : decode cX6_fewest 66 = .ok (.aload_n 0, 1) := o_42 (bg_dX6_fewest_53 13 42 rfl)
theorem dX6_fewest_67 : decode cX6_fewest 67 = .ok (.getfield 28, 3) := o_180 (bg_dX6_fewest_53 14 180 rfl) (bg_dX6_fewest_53 15 0 rfl) (bg_dX6_fewest_53 16 28 rfl)
theorem dX6_fewest_70 : decode cX6_fewest 70 = .ok (.iload_n 1, 1) := o_27 (bg_dX6_fewest_53 17 27 rfl)
theorem dX6_fewest_71 : decode cX6_fewest 71 = .ok (.iload 6, 2) := o_21 (bg_dX6_fewest_53 18 21 rfl) (bg_dX6_fewest_53 19 6 rfl)
theorem dX6_fewest_73 : decode cX6_fewest 73 = .ok (.iload_n 2, 1) := o_28 (bg_dX6_fewest_53 20 28 rfl)
theorem dX6_fewest_74 : decode cX6_fewest 74 = .ok (.iload_n 3, 1) := o_29 (bg_dX6_fewest_53 21 29 rfl)
theorem dX6_fewest_75 : decode cX6_fewest 75 = .ok (.invokevirtual 285, 3) := o_182 (bg_dX6_fewest_53 22 182 rfl) (bg_dX6_fewest_53 23 1 rfl) (bg_dX6_fewest_53 24 29 rfl)
theorem dX6_fewest_78 : decode cX6_fewest 78 = .ok (.ifCond .eq 14, 3) := o_153 (bg_dX6_fewest_53 25 153 rfl) (bg_dX6_fewest_53 26 0 rfl) (bg_dX6_fewest_53 27 14 rfl) (by decide +kernel)
theorem dX6_fewest_81 : decode cX6_fewest 81 = .ok (.iload 6, 2) := o_21 (bg_dX6_fewest_53 28 21 rfl) (bg_dX6_fewest_53 29 6 rfl)
theorem bg_dX6_fewest_83 : bysAt cX6_fewest 83 [54, 4, 21, 6, 184, 1, 9, 54, 5, 132, 6, 1, 167, 255, 205, 21, 4, 2, 160, 0, 12, 42, 16, 251, 182, 0, 70, 167, 0, 5, 21, 4, 172] := bysAt_of (by decide +kernel)
theorem dX6_fewest_83 : decode cX6_fewest 83 = .ok (.istore 4, 2) := o_54 (bg_dX6_fewest_83 0 54 rfl) (bg_dX6_fewest_83 1 4 rfl)
theorem dX6_fewest_85 : decode cX6_fewest 85 = .ok (.iload 6, 2) := o_21 (bg_dX6_fewest_83 2 21 rfl) (bg_dX6_fewest_83 3 6 rfl)
theorem dX6_fewest_87 : decode cX6_fewest 87 = .ok (.invokestatic 265, 3) := o_184 (bg_dX6_fewest_83 4 184 rfl) (bg_dX6_fewest_83 5 1 rfl) (bg_dX6_fewest_83 6 9 rfl)
theorem dX6_fewest_90 : decode cX6_fewest 90 = .ok (.istore 5, 2) := o_54 (bg_dX6_fewest_83 7 54 rfl) (bg_dX6_fewest_83 8 5 rfl)
theorem dX6_fewest_95 : decode cX6_fewest 95 = .ok (.goto (-51), 3) := o_167 (bg_dX6_fewest_83 12 167 rfl) (bg_dX6_fewest_83 13 255 rfl) (bg_dX6_fewest_83 14 205 rfl) (by decide +kernel)
theorem dX6_fewest_98 : decode cX6_fewest 98 = .ok (.iload 4, 2) := o_21 (bg_dX6_fewest_83 15 21 rfl) (bg_dX6_fewest_83 16 4 rfl)
theorem dX6_fewest_100 : decode cX6_fewest 100 = .ok (.iconst (-1), 1) := o_2 (bg_dX6_fewest_83 17 2 rfl)
theorem dX6_fewest_101 : decode cX6_fewest 101 = .ok (.if_icmp .ne 12, 3) := o_160 (bg_dX6_fewest_83 18 160 rfl) (bg_dX6_fewest_83 19 0 rfl) (bg_dX6_fewest_83 20 12 rfl) (by decide +kernel)
theorem dX6_fewest_104 : decode cX6_fewest 104 = .ok (.aload_n 0, 1) := o_42 (bg_dX6_fewest_83 21 42 rfl)
theorem dX6_fewest_105 : decode cX6_fewest 105 = .ok (.bipush (-5), 2) := o_16 (bg_dX6_fewest_83 22 16 rfl) (bg_dX6_fewest_83 23 251 rfl) (by decide +kernel)
theorem dX6_fewest_107 : decode cX6_fewest 107 = .ok (.invokevirtual 70, 3) := o_182 (bg_dX6_fewest_83 24 182 rfl) (bg_dX6_fewest_83 25 0 rfl) (bg_dX6_fewest_83 26 70 rfl)
theorem dX6_fewest_110 : decode cX6_fewest 110 = .ok (.goto 5, 3) := o_167 (bg_dX6_fewest_83 27 167 rfl) (bg_dX6_fewest_83 28 0 rfl) (bg_dX6_fewest_83 29 5 rfl) (by decide +kernel)
theorem dX6_fewest_113 : decode cX6_fewest 113 = .ok (.iload 4, 2) := o_21 (bg_dX6_fewest_83 30 21 rfl) (bg_dX6_fewest_83 31 4 rfl)
theorem dX6_fewest_115 : decode cX6_fewest 115 = .ok (.ireturn, 1) := o_172 (bg_dX6_fewest_83 32 172 rfl)
theorem bg_dX6_frost_0 : bysAt cX6_frost 0 [42, 27, 28, 29, 21, 4, 182, 0, 238, 153, 0, 37, 21, 5, 3, 16, 6, 184, 0, 66, 153, 0, 26, 21, 6, 3] := bysAt_of (by decide +kernel)
theorem dX6_frost_0 : decode cX6_frost 0 = .ok (.aload_n 0, 1) := o_42 (bg_dX6_frost_0 0 42 rfl)
theorem dX6_frost_1 : decode cX6_frost 1 = .ok (.iload_n 1, 1) := o_27 (bg_dX6_frost_0 1 27 rfl)
theorem dX6_frost_2 : decode cX6_frost 2 = .ok (.iload_n 2, 1) := o_28 (bg_dX6_frost_0 2 28 rfl)
theorem dX6_frost_3 : decode cX6_frost 3 = .ok (.iload_n 3, 1) := o_29 (bg_dX6_frost_0 3 29 rfl)
theorem dX6_frost_4 : decode cX6_frost 4 = .ok (.iload 4, 2) := o_21 (bg_dX6_frost_0 4 21 rfl) (bg_dX6_frost_0 5 4 rfl)
theorem dX6_frost_6 : decode cX6_frost 6 = .ok (.invokevirtual 238, 3) := o_182 (bg_dX6_frost_0 6 182 rfl) (bg_dX6_frost_0 7 0 rfl) (bg_dX6_frost_0 8 238 rfl)
theorem dX6_frost_9 : decode cX6_frost 9 = .ok (.ifCond .eq 37, 3) := o_153 (bg_dX6_frost_0 9 153 rfl) (bg_dX6_frost_0 10 0 rfl) (bg_dX6_frost_0 11 37 rfl) (by decide +kernel)
theorem dX6_frost_12 : decode cX6_frost 12 = .ok (.iload 5, 2) := o_21 (bg_dX6_frost_0 12 21 rfl) (bg_dX6_frost_0 13 5 rfl)
theorem dX6_frost_14 : decode cX6_frost 14 = .ok (.iconst 0, 1) := o_3 (bg_dX6_frost_0 14 3 rfl)
theorem dX6_frost_15 : decode cX6_frost 15 = .ok (.bipush 6, 2) := o_16 (bg_dX6_frost_0 15 16 rfl) (bg_dX6_frost_0 16 6 rfl) (by decide +kernel)
theorem dX6_frost_17 : decode cX6_frost 17 = .ok (.invokestatic 66, 3) := o_184 (bg_dX6_frost_0 17 184 rfl) (bg_dX6_frost_0 18 0 rfl) (bg_dX6_frost_0 19 66 rfl)
theorem dX6_frost_20 : decode cX6_frost 20 = .ok (.ifCond .eq 26, 3) := o_153 (bg_dX6_frost_0 20 153 rfl) (bg_dX6_frost_0 21 0 rfl) (bg_dX6_frost_0 22 26 rfl) (by decide +kernel)
theorem dX6_frost_23 : decode cX6_frost 23 = .ok (.iload 6, 2) := o_21 (bg_dX6_frost_0 23 21 rfl) (bg_dX6_frost_0 24 6 rfl)
theorem dX6_frost_25 : decode cX6_frost 25 = .ok (.iconst 0, 1) := o_3 (bg_dX6_frost_0 25 3 rfl)
theorem bg_dX6_frost_26 : bysAt cX6_frost 26 [16, 10, 184, 0, 66, 153, 0, 15, 21, 7, 3, 17, 3, 231, 184, 0, 66, 154, 0, 11, 42, 16, 254, 182, 0, 70, 133, 173, 42] := bysAt_of (by decide +kernel)
theorem dX6_frost_26 : decode cX6_frost 26 = .ok (.bipush 10, 2) := o_16 (bg_dX6_frost_26 0 16 rfl) (bg_dX6_frost_26 1 10 rfl) (by decide +kernel)
theorem dX6_frost_28 : decode cX6_frost 28 = .ok (.invokestatic 66, 3) := o_184 (bg_dX6_frost_26 2 184 rfl) (bg_dX6_frost_26 3 0 rfl) (bg_dX6_frost_26 4 66 rfl)
theorem dX6_frost_31 : decode cX6_frost 31 = .ok (.ifCond .eq 15, 3) := o_153 (bg_dX6_frost_26 5 153 rfl) (bg_dX6_frost_26 6 0 rfl) (bg_dX6_frost_26 7 15 rfl) (by decide +kernel)
theorem dX6_frost_34 : decode cX6_frost 34 = .ok (.iload 7, 2) := o_21 (bg_dX6_frost_26 8 21 rfl) (bg_dX6_frost_26 9 7 rfl)
theorem dX6_frost_36 : decode cX6_frost 36 = .ok (.iconst 0, 1) := o_3 (bg_dX6_frost_26 10 3 rfl)
theorem dX6_frost_37 : decode cX6_frost 37 = .ok (.sipush 999, 3) := o_17 (bg_dX6_frost_26 11 17 rfl) (bg_dX6_frost_26 12 3 rfl) (bg_dX6_frost_26 13 231 rfl) (by decide +kernel)
theorem dX6_frost_40 : decode cX6_frost 40 = .ok (.invokestatic 66, 3) := o_184 (bg_dX6_frost_26 14 184 rfl) (bg_dX6_frost_26 15 0 rfl) (bg_dX6_frost_26 16 66 rfl)
theorem dX6_frost_43 : decode cX6_frost 43 = .ok (.ifCond .ne 11, 3) := o_154 (bg_dX6_frost_26 17 154 rfl) (bg_dX6_frost_26 18 0 rfl) (bg_dX6_frost_26 19 11 rfl) (by decide +kernel)
theorem dX6_frost_46 : decode cX6_frost 46 = .ok (.aload_n 0, 1) := o_42 (bg_dX6_frost_26 20 42 rfl)
theorem dX6_frost_47 : decode cX6_frost 47 = .ok (.bipush (-2), 2) := o_16 (bg_dX6_frost_26 21 16 rfl) (bg_dX6_frost_26 22 254 rfl) (by decide +kernel)
theorem dX6_frost_49 : decode cX6_frost 49 = .ok (.invokevirtual 70, 3) := o_182 (bg_dX6_frost_26 23 182 rfl) (bg_dX6_frost_26 24 0 rfl) (bg_dX6_frost_26 25 70 rfl)
theorem dX6_frost_52 : decode cX6_frost 52 = .ok (.i2l, 1) := o_133 (bg_dX6_frost_26 26 133 rfl)
theorem dX6_frost_53 : decode cX6_frost 53 = .ok (.lreturn, 1) := o_173 (bg_dX6_frost_26 27 173 rfl)
theorem dX6_frost_54 : decode cX6_frost 54 = .ok (.aload_n 0, 1) := o_42 (bg_dX6_frost_26 28 42 rfl)
theorem bg_dX6_frost_55 : bysAt cX6_frost 55 [180, 0, 10, 180, 0, 156, 5, 46, 54, 8, 42, 180, 0, 10, 180, 0, 156, 5, 3, 79, 42, 180, 0, 28, 27] := bysAt_of (by decide +kernel)
theorem dX6_frost_55 : decode cX6_frost 55 = .ok (.getfield 10, 3) := o_180 (bg_dX6_frost_55 0 180 rfl) (bg_dX6_frost_55 1 0 rfl) (bg_dX6_frost_55 2 10 rfl)
theorem dX6_frost_58 : decode cX6_frost 58 = .ok (.getfield 156, 3) := o_180 (bg_dX6_frost_55 3 180 rfl) (bg_dX6_frost_55 4 0 rfl) (bg_dX6_frost_55 5 156 rfl)
theorem dX6_frost_61 : decode cX6_frost 61 = .ok (.iconst 2, 1) := o_5 (bg_dX6_frost_55 6 5 rfl)
theorem dX6_frost_62 : decode cX6_frost 62 = .ok (.iaload, 1) := o_46 (bg_dX6_frost_55 7 46 rfl)
theorem dX6_frost_63 : decode cX6_frost 63 = .ok (.istore 8, 2) := o_54 (bg_dX6_frost_55 8 54 rfl) (bg_dX6_frost_55 9 8 rfl)
theorem dX6_frost_65 : decode cX6_frost 65 = .ok (.aload_n 0, 1) := o_42 (bg_dX6_frost_55 10 42 rfl)
theorem dX6_frost_66 : decode cX6_frost 66 = .ok (.getfield 10, 3) := o_180 (bg_dX6_frost_55 11 180 rfl) (bg_dX6_frost_55 12 0 rfl) (bg_dX6_frost_55 13 10 rfl)
theorem dX6_frost_69 : decode cX6_frost 69 = .ok (.getfield 156, 3) := o_180 (bg_dX6_frost_55 14 180 rfl) (bg_dX6_frost_55 15 0 rfl) (bg_dX6_frost_55 16 156 rfl)
theorem dX6_frost_72 : decode cX6_frost 72 = .ok (.iconst 2, 1) := o_5 (bg_dX6_frost_55 17 5 rfl)
theorem dX6_frost_73 : decode cX6_frost 73 = .ok (.iconst 0, 1) := o_3 (bg_dX6_frost_55 18 3 rfl)
theorem dX6_frost_74 : decode cX6_frost 74 = .ok (.iastore, 1) := o_79 (bg_dX6_frost_55 19 79 rfl)
theorem dX6_frost_75 : decode cX6_frost 75 = .ok (.aload_n 0, 1) := o_42 (bg_dX6_frost_55 20 42 rfl)
theorem dX6_frost_76 : decode cX6_frost 76 = .ok (.getfield 28, 3) := o_180 (bg_dX6_frost_55 21 180 rfl) (bg_dX6_frost_55 22 0 rfl) (bg_dX6_frost_55 23 28 rfl)
theorem dX6_frost_79 : decode cX6_frost 79 = .ok (.iload_n 1, 1) := o_27 (bg_dX6_frost_55 24 27 rfl)
theorem bg_dX6_frost_80 : bysAt cX6_frost 80 [28, 29, 21, 4, 4, 182, 0, 242, 54, 9, 42, 180, 0, 10, 180, 0, 156, 5, 4, 79, 42, 180, 0, 28] := bysAt_of (by decide +kernel)
theorem dX6_frost_80 : decode cX6_frost 80 = .ok (.iload_n 2, 1) := o_28 (bg_dX6_frost_80 0 28 rfl)
theorem dX6_frost_81 : decode cX6_frost 81 = .ok (.iload_n 3, 1) := o_29 (bg_dX6_frost_80 1 29 rfl)
theorem dX6_frost_82 : decode cX6_frost 82 = .ok (.iload 4, 2) := o_21 (bg_dX6_frost_80 2 21 rfl) (bg_dX6_frost_80 3 4 rfl)
theorem dX6_frost_84 : decode cX6_frost 84 = .ok (.iconst 1, 1) := o_4 (bg_dX6_frost_80 4 4 rfl)
theorem dX6_frost_85 : decode cX6_frost 85 = .ok (.invokevirtual 242, 3) := o_182 (bg_dX6_frost_80 5 182 rfl) (bg_dX6_frost_80 6 0 rfl) (bg_dX6_frost_80 7 242 rfl)
theorem dX6_frost_88 : decode cX6_frost 88 = .ok (.istore 9, 2) := o_54 (bg_dX6_frost_80 8 54 rfl) (bg_dX6_frost_80 9 9 rfl)
theorem dX6_frost_90 : decode cX6_frost 90 = .ok (.aload_n 0, 1) := o_42 (bg_dX6_frost_80 10 42 rfl)
theorem dX6_frost_91 : decode cX6_frost 91 = .ok (.getfield 10, 3) := o_180 (bg_dX6_frost_80 11 180 rfl) (bg_dX6_frost_80 12 0 rfl) (bg_dX6_frost_80 13 10 rfl)
theorem dX6_frost_94 : decode cX6_frost 94 = .ok (.getfield 156, 3) := o_180 (bg_dX6_frost_80 14 180 rfl) (bg_dX6_frost_80 15 0 rfl) (bg_dX6_frost_80 16 156 rfl)
theorem dX6_frost_97 : decode cX6_frost 97 = .ok (.iconst 2, 1) := o_5 (bg_dX6_frost_80 17 5 rfl)
theorem dX6_frost_98 : decode cX6_frost 98 = .ok (.iconst 1, 1) := o_4 (bg_dX6_frost_80 18 4 rfl)
theorem dX6_frost_99 : decode cX6_frost 99 = .ok (.iastore, 1) := o_79 (bg_dX6_frost_80 19 79 rfl)
theorem dX6_frost_100 : decode cX6_frost 100 = .ok (.aload_n 0, 1) := o_42 (bg_dX6_frost_80 20 42 rfl)
theorem dX6_frost_101 : decode cX6_frost 101 = .ok (.getfield 28, 3) := o_180 (bg_dX6_frost_80 21 180 rfl) (bg_dX6_frost_80 22 0 rfl) (bg_dX6_frost_80 23 28 rfl)
theorem bg_dX6_frost_104 : bysAt cX6_frost 104 [27, 28, 29, 21, 4, 4, 182, 0, 242, 54, 10, 42, 180, 0, 10, 180, 0, 156, 5, 21, 8, 79, 21, 9] := bysAt_of (by decide +kernel)
theorem dX6_frost_104 : decode cX6_frost 104 = .ok (.iload_n 1, 1) := o_27 (bg_dX6_frost_104 0 27 rfl)
theorem dX6_frost_105 : decode cX6_frost 105 = .ok (.iload_n 2, 1) := o_28 (bg_dX6_frost_104 1 28 rfl)
theorem dX6_frost_106 : decode cX6_frost 106 = .ok (.iload_n 3, 1) := o_29 (bg_dX6_frost_104 2 29 rfl)
theorem dX6_frost_107 : decode cX6_frost 107 = .ok (.iload 4, 2) := o_21 (bg_dX6_frost_104 3 21 rfl) (bg_dX6_frost_104 4 4 rfl)
theorem dX6_frost_109 : decode cX6_frost 109 = .ok (.iconst 1, 1) := o_4 (bg_dX6_frost_104 5 4 rfl)
theorem dX6_frost_110 : decode cX6_frost 110 = .ok (.invokevirtual 242, 3) := o_182 (bg_dX6_frost_104 6 182 rfl) (bg_dX6_frost_104 7 0 rfl) (bg_dX6_frost_104 8 242 rfl)
theorem dX6_frost_113 : decode cX6_frost 113 = .ok (.istore 10, 2) := o_54 (bg_dX6_frost_104 9 54 rfl) (bg_dX6_frost_104 10 10 rfl)
theorem dX6_frost_115 : decode cX6_frost 115 = .ok (.aload_n 0, 1) := o_42 (bg_dX6_frost_104 11 42 rfl)
theorem dX6_frost_116 : decode cX6_frost 116 = .ok (.getfield 10, 3) := o_180 (bg_dX6_frost_104 12 180 rfl) (bg_dX6_frost_104 13 0 rfl) (bg_dX6_frost_104 14 10 rfl)
theorem dX6_frost_119 : decode cX6_frost 119 = .ok (.getfield 156, 3) := o_180 (bg_dX6_frost_104 15 180 rfl) (bg_dX6_frost_104 16 0 rfl) (bg_dX6_frost_104 17 156 rfl)
theorem dX6_frost_122 : decode cX6_frost 122 = .ok (.iconst 2, 1) := o_5 (bg_dX6_frost_104 18 5 rfl)
theorem dX6_frost_123 : decode cX6_frost 123 = .ok (.iload 8, 2) := o_21 (bg_dX6_frost_104 19 21 rfl) (bg_dX6_frost_104 20 8 rfl)
theorem dX6_frost_125 : decode cX6_frost 125 = .ok (.iastore, 1) := o_79 (bg_dX6_frost_104 21 79 rfl)
theorem dX6_frost_126 : decode cX6_frost 126 = .ok (.iload 9, 2) := o_21 (bg_dX6_frost_104 22 21 rfl) (bg_dX6_frost_104 23 9 rfl)
theorem bg_dX6_frost_128 : bysAt cX6_frost 128 [18, 255, 160, 0, 13, 42, 16, 251, 182, 0, 70, 133, 167, 0, 18, 21, 9, 133, 21, 10, 133, 21, 5, 21, 6, 21, 7] := bysAt_of (by decide +kernel)
theorem dX6_frost_128 : decode cX6_frost 128 = .ok (.ldc 255, 2) := o_18 (bg_dX6_frost_128 0 18 rfl) (bg_dX6_frost_128 1 255 rfl)
theorem dX6_frost_130 : decode cX6_frost 130 = .ok (.if_icmp .ne 13, 3) := o_160 (bg_dX6_frost_128 2 160 rfl) (bg_dX6_frost_128 3 0 rfl) (bg_dX6_frost_128 4 13 rfl) (by decide +kernel)
theorem dX6_frost_133 : decode cX6_frost 133 = .ok (.aload_n 0, 1) := o_42 (bg_dX6_frost_128 5 42 rfl)
theorem dX6_frost_134 : decode cX6_frost 134 = .ok (.bipush (-5), 2) := o_16 (bg_dX6_frost_128 6 16 rfl) (bg_dX6_frost_128 7 251 rfl) (by decide +kernel)
theorem dX6_frost_136 : decode cX6_frost 136 = .ok (.invokevirtual 70, 3) := o_182 (bg_dX6_frost_128 8 182 rfl) (bg_dX6_frost_128 9 0 rfl) (bg_dX6_frost_128 10 70 rfl)
theorem dX6_frost_139 : decode cX6_frost 139 = .ok (.i2l, 1) := o_133 (bg_dX6_frost_128 11 133 rfl)
theorem dX6_frost_140 : decode cX6_frost 140 = .ok (.goto 18, 3) := o_167 (bg_dX6_frost_128 12 167 rfl) (bg_dX6_frost_128 13 0 rfl) (bg_dX6_frost_128 14 18 rfl) (by decide +kernel)
theorem dX6_frost_143 : decode cX6_frost 143 = .ok (.iload 9, 2) := o_21 (bg_dX6_frost_128 15 21 rfl) (bg_dX6_frost_128 16 9 rfl)
theorem dX6_frost_145 : decode cX6_frost 145 = .ok (.i2l, 1) := o_133 (bg_dX6_frost_128 17 133 rfl)
theorem dX6_frost_146 : decode cX6_frost 146 = .ok (.iload 10, 2) := o_21 (bg_dX6_frost_128 18 21 rfl) (bg_dX6_frost_128 19 10 rfl)
theorem dX6_frost_148 : decode cX6_frost 148 = .ok (.i2l, 1) := o_133 (bg_dX6_frost_128 20 133 rfl)
theorem dX6_frost_149 : decode cX6_frost 149 = .ok (.iload 5, 2) := o_21 (bg_dX6_frost_128 21 21 rfl) (bg_dX6_frost_128 22 5 rfl)
theorem dX6_frost_151 : decode cX6_frost 151 = .ok (.iload 6, 2) := o_21 (bg_dX6_frost_128 23 21 rfl) (bg_dX6_frost_128 24 6 rfl)
theorem dX6_frost_153 : decode cX6_frost 153 = .ok (.iload 7, 2) := o_21 (bg_dX6_frost_128 25 21 rfl) (bg_dX6_frost_128 26 7 rfl)
theorem bg_dX6_frost_155 : bysAt cX6_frost 155 [184, 1, 35, 173] := bysAt_of (by decide +kernel)
theorem dX6_frost_155 : decode cX6_frost 155 = .ok (.invokestatic 291, 3) := o_184 (bg_dX6_frost_155 0 184 rfl) (bg_dX6_frost_155 1 1 rfl) (bg_dX6_frost_155 2 35 rfl)
theorem dX6_frost_158 : decode cX6_frost 158 = .ok (.lreturn, 1) := o_173 (bg_dX6_frost_155 3 173 rfl)
theorem bg_dX6_goAlong_0 : bysAt cX6_goAlong 0 [42, 180, 0, 10, 180, 1, 45, 77, 42, 180, 0, 28, 44, 3, 46, 182, 1, 70, 42, 180, 0, 28, 27, 133] := bysAt_of (by decide +kernel)
theorem dX6_goAlong_0 : decode cX6_goAlong 0 = .ok (.aload_n 0, 1) := o_42 (bg_dX6_goAlong_0 0 42 rfl)
theorem dX6_goAlong_1 : decode cX6_goAlong 1 = .ok (.getfield 10, 3) := o_180 (bg_dX6_goAlong_0 1 180 rfl) (bg_dX6_goAlong_0 2 0 rfl) (bg_dX6_goAlong_0 3 10 rfl)
theorem dX6_goAlong_4 : decode cX6_goAlong 4 = .ok (.getfield 301, 3) := o_180 (bg_dX6_goAlong_0 4 180 rfl) (bg_dX6_goAlong_0 5 1 rfl) (bg_dX6_goAlong_0 6 45 rfl)
theorem dX6_goAlong_7 : decode cX6_goAlong 7 = .ok (.astore_n 2, 1) := o_77 (bg_dX6_goAlong_0 7 77 rfl)
theorem dX6_goAlong_8 : decode cX6_goAlong 8 = .ok (.aload_n 0, 1) := o_42 (bg_dX6_goAlong_0 8 42 rfl)
theorem dX6_goAlong_9 : decode cX6_goAlong 9 = .ok (.getfield 28, 3) := o_180 (bg_dX6_goAlong_0 9 180 rfl) (bg_dX6_goAlong_0 10 0 rfl) (bg_dX6_goAlong_0 11 28 rfl)
theorem dX6_goAlong_12 : decode cX6_goAlong 12 = .ok (.aload_n 2, 1) := o_44 (bg_dX6_goAlong_0 12 44 rfl)
theorem dX6_goAlong_13 : decode cX6_goAlong 13 = .ok (.iconst 0, 1) := o_3 (bg_dX6_goAlong_0 13 3 rfl)
theorem dX6_goAlong_14 : decode cX6_goAlong 14 = .ok (.iaload, 1) := o_46 (bg_dX6_goAlong_0 14 46 rfl)
theorem dX6_goAlong_15 : decode cX6_goAlong 15 = .ok (.invokevirtual 326, 3) := o_182 (bg_dX6_goAlong_0 15 182 rfl) (bg_dX6_goAlong_0 16 1 rfl) (bg_dX6_goAlong_0 17 70 rfl)
theorem dX6_goAlong_18 : decode cX6_goAlong 18 = .ok (.aload_n 0, 1) := o_42 (bg_dX6_goAlong_0 18 42 rfl)
theorem dX6_goAlong_19 : decode cX6_goAlong 19 = .ok (.getfield 28, 3) := o_180 (bg_dX6_goAlong_0 19 180 rfl) (bg_dX6_goAlong_0 20 0 rfl) (bg_dX6_goAlong_0 21 28 rfl)
theorem dX6_goAlong_22 : decode cX6_goAlong 22 = .ok (.iload_n 1, 1) := o_27 (bg_dX6_goAlong_0 22 27 rfl)
theorem dX6_goAlong_23 : decode cX6_goAlong 23 = .ok (.i2l, 1) := o_133 (bg_dX6_goAlong_0 23 133 rfl)
theorem bg_dX6_goAlong_24 : bysAt cX6_goAlong 24 [182, 1, 73, 87, 44, 3, 42, 180, 0, 28, 180, 1, 6, 6, 46, 79, 44, 5, 92, 46] := bysAt_of (by decide +kernel)
theorem dX6_goAlong_24 : decode cX6_goAlong 24 = .ok (.invokevirtual 329, 3) := o_182 (bg_dX6_goAlong_24 0 182 rfl) (bg_dX6_goAlong_24 1 1 rfl) (bg_dX6_goAlong_24 2 73 rfl)
theorem dX6_goAlong_27 : decode cX6_goAlong 27 = .ok (.pop, 1) := o_87 (bg_dX6_goAlong_24 3 87 rfl)
theorem dX6_goAlong_28 : decode cX6_goAlong 28 = .ok (.aload_n 2, 1) := o_44 (bg_dX6_goAlong_24 4 44 rfl)
theorem dX6_goAlong_29 : decode cX6_goAlong 29 = .ok (.iconst 0, 1) := o_3 (bg_dX6_goAlong_24 5 3 rfl)
theorem dX6_goAlong_30 : decode cX6_goAlong 30 = .ok (.aload_n 0, 1) := o_42 (bg_dX6_goAlong_24 6 42 rfl)
theorem dX6_goAlong_31 : decode cX6_goAlong 31 = .ok (.getfield 28, 3) := o_180 (bg_dX6_goAlong_24 7 180 rfl) (bg_dX6_goAlong_24 8 0 rfl) (bg_dX6_goAlong_24 9 28 rfl)
theorem dX6_goAlong_34 : decode cX6_goAlong 34 = .ok (.getfield 262, 3) := o_180 (bg_dX6_goAlong_24 10 180 rfl) (bg_dX6_goAlong_24 11 1 rfl) (bg_dX6_goAlong_24 12 6 rfl)
theorem dX6_goAlong_37 : decode cX6_goAlong 37 = .ok (.iconst 3, 1) := o_6 (bg_dX6_goAlong_24 13 6 rfl)
theorem dX6_goAlong_38 : decode cX6_goAlong 38 = .ok (.iaload, 1) := o_46 (bg_dX6_goAlong_24 14 46 rfl)
theorem dX6_goAlong_39 : decode cX6_goAlong 39 = .ok (.iastore, 1) := o_79 (bg_dX6_goAlong_24 15 79 rfl)
theorem dX6_goAlong_40 : decode cX6_goAlong 40 = .ok (.aload_n 2, 1) := o_44 (bg_dX6_goAlong_24 16 44 rfl)
theorem dX6_goAlong_41 : decode cX6_goAlong 41 = .ok (.iconst 2, 1) := o_5 (bg_dX6_goAlong_24 17 5 rfl)
theorem dX6_goAlong_42 : decode cX6_goAlong 42 = .ok (.dup2, 1) := o_92 (bg_dX6_goAlong_24 18 92 rfl)
theorem dX6_goAlong_43 : decode cX6_goAlong 43 = .ok (.iaload, 1) := o_46 (bg_dX6_goAlong_24 19 46 rfl)
theorem bg_dX6_goAlong_44 : bysAt cX6_goAlong 44 [42, 180, 0, 28, 180, 1, 6, 3, 46, 96, 79, 44, 6, 92, 46, 42, 180, 0, 28, 180, 1, 6] := bysAt_of (by decide +kernel)
theorem dX6_goAlong_44 : decode cX6_goAlong 44 = .ok (.aload_n 0, 1) := o_42 (bg_dX6_goAlong_44 0 42 rfl)
theorem dX6_goAlong_45 : decode cX6_goAlong 45 = .ok (.getfield 28, 3) := o_180 (bg_dX6_goAlong_44 1 180 rfl) (bg_dX6_goAlong_44 2 0 rfl) (bg_dX6_goAlong_44 3 28 rfl)
theorem dX6_goAlong_48 : decode cX6_goAlong 48 = .ok (.getfield 262, 3) := o_180 (bg_dX6_goAlong_44 4 180 rfl) (bg_dX6_goAlong_44 5 1 rfl) (bg_dX6_goAlong_44 6 6 rfl)
theorem dX6_goAlong_51 : decode cX6_goAlong 51 = .ok (.iconst 0, 1) := o_3 (bg_dX6_goAlong_44 7 3 rfl)
theorem dX6_goAlong_52 : decode cX6_goAlong 52 = .ok (.iaload, 1) := o_46 (bg_dX6_goAlong_44 8 46 rfl)
theorem dX6_goAlong_53 : decode cX6_goAlong 53 = .ok (.iadd, 1) := o_96 (bg_dX6_goAlong_44 9 96 rfl)
theorem dX6_goAlong_54 : decode cX6_goAlong 54 = .ok (.iastore, 1) := o_79 (bg_dX6_goAlong_44 10 79 rfl)
theorem dX6_goAlong_55 : decode cX6_goAlong 55 = .ok (.aload_n 2, 1) := o_44 (bg_dX6_goAlong_44 11 44 rfl)
theorem dX6_goAlong_56 : decode cX6_goAlong 56 = .ok (.iconst 3, 1) := o_6 (bg_dX6_goAlong_44 12 6 rfl)
theorem dX6_goAlong_57 : decode cX6_goAlong 57 = .ok (.dup2, 1) := o_92 (bg_dX6_goAlong_44 13 92 rfl)
theorem dX6_goAlong_58 : decode cX6_goAlong 58 = .ok (.iaload, 1) := o_46 (bg_dX6_goAlong_44 14 46 rfl)
theorem dX6_goAlong_59 : decode cX6_goAlong 59 = .ok (.aload_n 0, 1) := o_42 (bg_dX6_goAlong_44 15 42 rfl)
theorem dX6_goAlong_60 : decode cX6_goAlong 60 = .ok (.getfield 28, 3) := o_180 (bg_dX6_goAlong_44 16 180 rfl) (bg_dX6_goAlong_44 17 0 rfl) (bg_dX6_goAlong_44 18 28 rfl)
theorem dX6_goAlong_63 : decode cX6_goAlong 63 = .ok (.getfield 262, 3) := o_180 (bg_dX6_goAlong_44 19 180 rfl) (bg_dX6_goAlong_44 20 1 rfl) (bg_dX6_goAlong_44 21 6 rfl)
theorem bg_dX6_goAlong_66 : bysAt cX6_goAlong 66 [4, 46, 96, 79, 44, 7, 92, 46, 4, 96, 79, 42, 180, 0, 28, 27] := bysAt_of (by decide +kernel)
theorem dX6_goAlong_66 : decode cX6_goAlong 66 = .ok (.iconst 1, 1) := o_4 (bg_dX6_goAlong_66 0 4 rfl)
theorem dX6_goAlong_67 : decode cX6_goAlong 67 = .ok (.iaload, 1) := o_46 (bg_dX6_goAlong_66 1 46 rfl)
theorem dX6_goAlong_68 : decode cX6_goAlong 68 = .ok (.iadd, 1) := o_96 (bg_dX6_goAlong_66 2 96 rfl)
theorem dX6_goAlong_69 : decode cX6_goAlong 69 = .ok (.iastore, 1) := o_79 (bg_dX6_goAlong_66 3 79 rfl)
theorem dX6_goAlong_70 : decode cX6_goAlong 70 = .ok (.aload_n 2, 1) := o_44 (bg_dX6_goAlong_66 4 44 rfl)
theorem dX6_goAlong_71 : decode cX6_goAlong 71 = .ok (.iconst 4, 1) := o_7 (bg_dX6_goAlong_66 5 7 rfl)
theorem dX6_goAlong_72 : decode cX6_goAlong 72 = .ok (.dup2, 1) := o_92 (bg_dX6_goAlong_66 6 92 rfl)
theorem dX6_goAlong_73 : decode cX6_goAlong 73 = .ok (.iaload, 1) := o_46 (bg_dX6_goAlong_66 7 46 rfl)
theorem dX6_goAlong_74 : decode cX6_goAlong 74 = .ok (.iconst 1, 1) := o_4 (bg_dX6_goAlong_66 8 4 rfl)
theorem dX6_goAlong_75 : decode cX6_goAlong 75 = .ok (.iadd, 1) := o_96 (bg_dX6_goAlong_66 9 96 rfl)
theorem dX6_goAlong_76 : decode cX6_goAlong 76 = .ok (.iastore, 1) := o_79 (bg_dX6_goAlong_66 10 79 rfl)
theorem dX6_goAlong_77 : decode cX6_goAlong 77 = .ok (.aload_n 0, 1) := o_42 (bg_dX6_goAlong_66 11 42 rfl)
theorem dX6_goAlong_78 : decode cX6_goAlong 78 = .ok (.getfield 28, 3) := o_180 (bg_dX6_goAlong_66 12 180 rfl) (bg_dX6_goAlong_66 13 0 rfl) (bg_dX6_goAlong_66 14 28 rfl)
theorem dX6_goAlong_81 : decode cX6_goAlong 81 = .ok (.iload_n 1, 1) := o_27 (bg_dX6_goAlong_66 15 27 rfl)
theorem bg_dX6_goAlong_82 : bysAt cX6_goAlong 82 [182, 1, 88, 177] := bysAt_of (by decide +kernel)
theorem dX6_goAlong_82 : decode cX6_goAlong 82 = .ok (.invokevirtual 344, 3) := o_182 (bg_dX6_goAlong_82 0 182 rfl) (bg_dX6_goAlong_82 1 1 rfl) (bg_dX6_goAlong_82 2 88 rfl)
theorem dX6_goAlong_85 : decode cX6_goAlong 85 = .ok (.return_, 1) := o_177 (bg_dX6_goAlong_82 3 177 rfl)
theorem bg_dX6_hang_0 : bysAt cX6_hang 0 [42, 27, 28, 29, 21, 4, 182, 0, 238, 154, 0, 10, 42, 16, 254, 182, 0, 70, 172, 42, 180, 0, 10, 180, 1, 17] := bysAt_of (by decide +kernel)
theorem dX6_hang_0 : decode cX6_hang 0 = .ok (.aload_n 0, 1) := o_42 (bg_dX6_hang_0 0 42 rfl)
theorem dX6_hang_1 : decode cX6_hang 1 = .ok (.iload_n 1, 1) := o_27 (bg_dX6_hang_0 1 27 rfl)
theorem dX6_hang_2 : decode cX6_hang 2 = .ok (.iload_n 2, 1) := o_28 (bg_dX6_hang_0 2 28 rfl)
theorem dX6_hang_3 : decode cX6_hang 3 = .ok (.iload_n 3, 1) := o_29 (bg_dX6_hang_0 3 29 rfl)
theorem dX6_hang_4 : decode cX6_hang 4 = .ok (.iload 4, 2) := o_21 (bg_dX6_hang_0 4 21 rfl) (bg_dX6_hang_0 5 4 rfl)
theorem dX6_hang_6 : decode cX6_hang 6 = .ok (.invokevirtual 238, 3) := o_182 (bg_dX6_hang_0 6 182 rfl) (bg_dX6_hang_0 7 0 rfl) (bg_dX6_hang_0 8 238 rfl)
theorem dX6_hang_9 : decode cX6_hang 9 = .ok (.ifCond .ne 10, 3) := o_154 (bg_dX6_hang_0 9 154 rfl) (bg_dX6_hang_0 10 0 rfl) (bg_dX6_hang_0 11 10 rfl) (by decide +kernel)
theorem dX6_hang_12 : decode cX6_hang 12 = .ok (.aload_n 0, 1) := o_42 (bg_dX6_hang_0 12 42 rfl)
theorem dX6_hang_13 : decode cX6_hang 13 = .ok (.bipush (-2), 2) := o_16 (bg_dX6_hang_0 13 16 rfl) (bg_dX6_hang_0 14 254 rfl) (by decide +kernel)
theorem dX6_hang_15 : decode cX6_hang 15 = .ok (.invokevirtual 70, 3) := o_182 (bg_dX6_hang_0 15 182 rfl) (bg_dX6_hang_0 16 0 rfl) (bg_dX6_hang_0 17 70 rfl)
theorem dX6_hang_18 : decode cX6_hang 18 = .ok (.ireturn, 1) := o_172 (bg_dX6_hang_0 18 172 rfl)
theorem dX6_hang_19 : decode cX6_hang 19 = .ok (.aload_n 0, 1) := o_42 (bg_dX6_hang_0 19 42 rfl)
theorem dX6_hang_20 : decode cX6_hang 20 = .ok (.getfield 10, 3) := o_180 (bg_dX6_hang_0 20 180 rfl) (bg_dX6_hang_0 21 0 rfl) (bg_dX6_hang_0 22 10 rfl)
theorem dX6_hang_23 : decode cX6_hang 23 = .ok (.getfield 273, 3) := o_180 (bg_dX6_hang_0 23 180 rfl) (bg_dX6_hang_0 24 1 rfl) (bg_dX6_hang_0 25 17 rfl)
theorem bg_dX6_hang_26 : bysAt cX6_hang 26 [4, 46, 153, 0, 21, 42, 180, 0, 28, 27, 28, 29, 21, 4, 4, 182, 0, 242, 18, 255, 160, 0, 10, 42] := bysAt_of (by decide +kernel)
theorem dX6_hang_26 : decode cX6_hang 26 = .ok (.iconst 1, 1) := o_4 (bg_dX6_hang_26 0 4 rfl)
theorem dX6_hang_27 : decode cX6_hang 27 = .ok (.iaload, 1) := o_46 (bg_dX6_hang_26 1 46 rfl)
theorem dX6_hang_28 : decode cX6_hang 28 = .ok (.ifCond .eq 21, 3) := o_153 (bg_dX6_hang_26 2 153 rfl) (bg_dX6_hang_26 3 0 rfl) (bg_dX6_hang_26 4 21 rfl) (by decide +kernel)
theorem dX6_hang_31 : decode cX6_hang 31 = .ok (.aload_n 0, 1) := o_42 (bg_dX6_hang_26 5 42 rfl)
theorem dX6_hang_32 : decode cX6_hang 32 = .ok (.getfield 28, 3) := o_180 (bg_dX6_hang_26 6 180 rfl) (bg_dX6_hang_26 7 0 rfl) (bg_dX6_hang_26 8 28 rfl)
theorem dX6_hang_35 : decode cX6_hang 35 = .ok (.iload_n 1, 1) := o_27 (bg_dX6_hang_26 9 27 rfl)
theorem dX6_hang_36 : decode cX6_hang 36 = .ok (.iload_n 2, 1) := o_28 (bg_dX6_hang_26 10 28 rfl)
theorem dX6_hang_37 : decode cX6_hang 37 = .ok (.iload_n 3, 1) := o_29 (bg_dX6_hang_26 11 29 rfl)
theorem dX6_hang_38 : decode cX6_hang 38 = .ok (.iload 4, 2) := o_21 (bg_dX6_hang_26 12 21 rfl) (bg_dX6_hang_26 13 4 rfl)
theorem dX6_hang_40 : decode cX6_hang 40 = .ok (.iconst 1, 1) := o_4 (bg_dX6_hang_26 14 4 rfl)
theorem dX6_hang_41 : decode cX6_hang 41 = .ok (.invokevirtual 242, 3) := o_182 (bg_dX6_hang_26 15 182 rfl) (bg_dX6_hang_26 16 0 rfl) (bg_dX6_hang_26 17 242 rfl)
theorem dX6_hang_44 : decode cX6_hang 44 = .ok (.ldc 255, 2) := o_18 (bg_dX6_hang_26 18 18 rfl) (bg_dX6_hang_26 19 255 rfl)
theorem dX6_hang_46 : decode cX6_hang 46 = .ok (.if_icmp .ne 10, 3) := o_160 (bg_dX6_hang_26 20 160 rfl) (bg_dX6_hang_26 21 0 rfl) (bg_dX6_hang_26 22 10 rfl) (by decide +kernel)
theorem dX6_hang_49 : decode cX6_hang 49 = .ok (.aload_n 0, 1) := o_42 (bg_dX6_hang_26 23 42 rfl)
theorem bg_dX6_hang_50 : bysAt cX6_hang 50 [16, 251, 182, 0, 70, 172, 2, 54, 5, 2, 54, 6, 3, 54, 7, 21, 7, 42, 180, 0, 10, 180, 1, 17, 4] := bysAt_of (by decide +kernel)
theorem dX6_hang_50 : decode cX6_hang 50 = .ok (.bipush (-5), 2) := o_16 (bg_dX6_hang_50 0 16 rfl) (bg_dX6_hang_50 1 251 rfl) (by decide +kernel)
theorem dX6_hang_52 : decode cX6_hang 52 = .ok (.invokevirtual 70, 3) := o_182 (bg_dX6_hang_50 2 182 rfl) (bg_dX6_hang_50 3 0 rfl) (bg_dX6_hang_50 4 70 rfl)
theorem dX6_hang_55 : decode cX6_hang 55 = .ok (.ireturn, 1) := o_172 (bg_dX6_hang_50 5 172 rfl)
theorem dX6_hang_56 : decode cX6_hang 56 = .ok (.iconst (-1), 1) := o_2 (bg_dX6_hang_50 6 2 rfl)
theorem dX6_hang_57 : decode cX6_hang 57 = .ok (.istore 5, 2) := o_54 (bg_dX6_hang_50 7 54 rfl) (bg_dX6_hang_50 8 5 rfl)
theorem dX6_hang_59 : decode cX6_hang 59 = .ok (.iconst (-1), 1) := o_2 (bg_dX6_hang_50 9 2 rfl)
theorem dX6_hang_60 : decode cX6_hang 60 = .ok (.istore 6, 2) := o_54 (bg_dX6_hang_50 10 54 rfl) (bg_dX6_hang_50 11 6 rfl)
theorem dX6_hang_62 : decode cX6_hang 62 = .ok (.iconst 0, 1) := o_3 (bg_dX6_hang_50 12 3 rfl)
theorem dX6_hang_63 : decode cX6_hang 63 = .ok (.istore 7, 2) := o_54 (bg_dX6_hang_50 13 54 rfl) (bg_dX6_hang_50 14 7 rfl)
theorem dX6_hang_65 : decode cX6_hang 65 = .ok (.iload 7, 2) := o_21 (bg_dX6_hang_50 15 21 rfl) (bg_dX6_hang_50 16 7 rfl)
theorem dX6_hang_67 : decode cX6_hang 67 = .ok (.aload_n 0, 1) := o_42 (bg_dX6_hang_50 17 42 rfl)
theorem dX6_hang_68 : decode cX6_hang 68 = .ok (.getfield 10, 3) := o_180 (bg_dX6_hang_50 18 180 rfl) (bg_dX6_hang_50 19 0 rfl) (bg_dX6_hang_50 20 10 rfl)
theorem dX6_hang_71 : decode cX6_hang 71 = .ok (.getfield 273, 3) := o_180 (bg_dX6_hang_50 21 180 rfl) (bg_dX6_hang_50 22 1 rfl) (bg_dX6_hang_50 23 17 rfl)
theorem dX6_hang_74 : decode cX6_hang 74 = .ok (.iconst 1, 1) := o_4 (bg_dX6_hang_50 24 4 rfl)
theorem bg_dX6_hang_75 : bysAt cX6_hang 75 [46, 162, 0, 37, 42, 21, 7, 27, 28, 29, 21, 4, 182, 1, 20, 54, 8, 21, 8, 21, 6, 164, 0, 11, 21, 8] := bysAt_of (by decide +kernel)
theorem dX6_hang_75 : decode cX6_hang 75 = .ok (.iaload, 1) := o_46 (bg_dX6_hang_75 0 46 rfl)
theorem dX6_hang_76 : decode cX6_hang 76 = .ok (.if_icmp .ge 37, 3) := o_162 (bg_dX6_hang_75 1 162 rfl) (bg_dX6_hang_75 2 0 rfl) (bg_dX6_hang_75 3 37 rfl) (by decide +kernel)
theorem dX6_hang_79 : decode cX6_hang 79 = .ok (.aload_n 0, 1) := o_42 (bg_dX6_hang_75 4 42 rfl)
theorem dX6_hang_80 : decode cX6_hang 80 = .ok (.iload 7, 2) := o_21 (bg_dX6_hang_75 5 21 rfl) (bg_dX6_hang_75 6 7 rfl)
theorem dX6_hang_82 : decode cX6_hang 82 = .ok (.iload_n 1, 1) := o_27 (bg_dX6_hang_75 7 27 rfl)
theorem dX6_hang_83 : decode cX6_hang 83 = .ok (.iload_n 2, 1) := o_28 (bg_dX6_hang_75 8 28 rfl)
theorem dX6_hang_84 : decode cX6_hang 84 = .ok (.iload_n 3, 1) := o_29 (bg_dX6_hang_75 9 29 rfl)
theorem dX6_hang_85 : decode cX6_hang 85 = .ok (.iload 4, 2) := o_21 (bg_dX6_hang_75 10 21 rfl) (bg_dX6_hang_75 11 4 rfl)
theorem dX6_hang_87 : decode cX6_hang 87 = .ok (.invokevirtual 276, 3) := o_182 (bg_dX6_hang_75 12 182 rfl) (bg_dX6_hang_75 13 1 rfl) (bg_dX6_hang_75 14 20 rfl)
theorem dX6_hang_90 : decode cX6_hang 90 = .ok (.istore 8, 2) := o_54 (bg_dX6_hang_75 15 54 rfl) (bg_dX6_hang_75 16 8 rfl)
theorem dX6_hang_92 : decode cX6_hang 92 = .ok (.iload 8, 2) := o_21 (bg_dX6_hang_75 17 21 rfl) (bg_dX6_hang_75 18 8 rfl)
theorem dX6_hang_94 : decode cX6_hang 94 = .ok (.iload 6, 2) := o_21 (bg_dX6_hang_75 19 21 rfl) (bg_dX6_hang_75 20 6 rfl)
theorem dX6_hang_96 : decode cX6_hang 96 = .ok (.if_icmp .le 11, 3) := o_164 (bg_dX6_hang_75 21 164 rfl) (bg_dX6_hang_75 22 0 rfl) (bg_dX6_hang_75 23 11 rfl) (by decide +kernel)
theorem dX6_hang_99 : decode cX6_hang 99 = .ok (.iload 8, 2) := o_21 (bg_dX6_hang_75 24 21 rfl) (bg_dX6_hang_75 25 8 rfl)
theorem bg_dX6_hang_101 : bysAt cX6_hang 101 [54, 6, 21, 7, 54, 5, 132, 7, 1, 167, 255, 211, 21, 5, 172] := bysAt_of (by decide +kernel)
theorem dX6_hang_101 : decode cX6_hang 101 = .ok (.istore 6, 2) := o_54 (bg_dX6_hang_101 0 54 rfl) (bg_dX6_hang_101 1 6 rfl)
theorem dX6_hang_103 : decode cX6_hang 103 = .ok (.iload 7, 2) := o_21 (bg_dX6_hang_101 2 21 rfl) (bg_dX6_hang_101 3 7 rfl)
theorem dX6_hang_105 : decode cX6_hang 105 = .ok (.istore 5, 2) := o_54 (bg_dX6_hang_101 4 54 rfl) (bg_dX6_hang_101 5 5 rfl)
theorem dX6_hang_110 : decode cX6_hang 110 = .ok (.goto (-45), 3) := o_167 (bg_dX6_hang_101 9 167 rfl) (bg_dX6_hang_101 10 255 rfl) (bg_dX6_hang_101 11 211 rfl) (by decide +kernel)
theorem dX6_hang_113 : decode cX6_hang 113 = .ok (.iload 5, 2) := o_21 (bg_dX6_hang_101 12 21 rfl) (bg_dX6_hang_101 13 5 rfl)
theorem dX6_hang_115 : decode cX6_hang 115 = .ok (.ireturn, 1) := o_172 (bg_dX6_hang_101 14 172 rfl)
theorem bg_dX6_heaviest_0 : bysAt cX6_heaviest 0 [42, 180, 0, 10, 180, 0, 156, 3, 3, 79, 42, 180, 0, 28, 27, 3, 28, 29, 182, 1, 29, 154, 0, 5] := bysAt_of (by decide +kernel)
theorem dX6_heaviest_0 : decode cX6_heaviest 0 = .ok (.aload_n 0, 1) := o_42 (bg_dX6_heaviest_0 0 42 rfl)
theorem dX6_heaviest_1 : decode cX6_heaviest 1 = .ok (.getfield 10, 3) := o_180 (bg_dX6_heaviest_0 1 180 rfl) (bg_dX6_heaviest_0 2 0 rfl) (bg_dX6_heaviest_0 3 10 rfl)
theorem dX6_heaviest_4 : decode cX6_heaviest 4 = .ok (.getfield 156, 3) := o_180 (bg_dX6_heaviest_0 4 180 rfl) (bg_dX6_heaviest_0 5 0 rfl) (bg_dX6_heaviest_0 6 156 rfl)
theorem dX6_heaviest_7 : decode cX6_heaviest 7 = .ok (.iconst 0, 1) := o_3 (bg_dX6_heaviest_0 7 3 rfl)
theorem dX6_heaviest_8 : decode cX6_heaviest 8 = .ok (.iconst 0, 1) := o_3 (bg_dX6_heaviest_0 8 3 rfl)
theorem dX6_heaviest_9 : decode cX6_heaviest 9 = .ok (.iastore, 1) := o_79 (bg_dX6_heaviest_0 9 79 rfl)
theorem dX6_heaviest_10 : decode cX6_heaviest 10 = .ok (.aload_n 0, 1) := o_42 (bg_dX6_heaviest_0 10 42 rfl)
theorem dX6_heaviest_11 : decode cX6_heaviest 11 = .ok (.getfield 28, 3) := o_180 (bg_dX6_heaviest_0 11 180 rfl) (bg_dX6_heaviest_0 12 0 rfl) (bg_dX6_heaviest_0 13 28 rfl)
theorem dX6_heaviest_14 : decode cX6_heaviest 14 = .ok (.iload_n 1, 1) := o_27 (bg_dX6_heaviest_0 14 27 rfl)
theorem dX6_heaviest_15 : decode cX6_heaviest 15 = .ok (.iconst 0, 1) := o_3 (bg_dX6_heaviest_0 15 3 rfl)
theorem dX6_heaviest_16 : decode cX6_heaviest 16 = .ok (.iload_n 2, 1) := o_28 (bg_dX6_heaviest_0 16 28 rfl)
theorem dX6_heaviest_17 : decode cX6_heaviest 17 = .ok (.iload_n 3, 1) := o_29 (bg_dX6_heaviest_0 17 29 rfl)
theorem dX6_heaviest_18 : decode cX6_heaviest 18 = .ok (.invokevirtual 285, 3) := o_182 (bg_dX6_heaviest_0 18 182 rfl) (bg_dX6_heaviest_0 19 1 rfl) (bg_dX6_heaviest_0 20 29 rfl)
theorem dX6_heaviest_21 : decode cX6_heaviest 21 = .ok (.ifCond .ne 5, 3) := o_154 (bg_dX6_heaviest_0 21 154 rfl) (bg_dX6_heaviest_0 22 0 rfl) (bg_dX6_heaviest_0 23 5 rfl) (by decide +kernel)
theorem bg_dX6_heaviest_24 : bysAt cX6_heaviest 24 [2, 172, 3, 54, 4, 17, 2, 0, 54, 5, 21, 5, 158, 0, 58, 42, 180, 0, 10, 180, 0, 156, 3, 21, 4, 21, 5] := bysAt_of (by decide +kernel)
theorem dX6_heaviest_24 : decode cX6_heaviest 24 = .ok (.iconst (-1), 1) := o_2 (bg_dX6_heaviest_24 0 2 rfl)
theorem dX6_heaviest_25 : decode cX6_heaviest 25 = .ok (.ireturn, 1) := o_172 (bg_dX6_heaviest_24 1 172 rfl)
theorem dX6_heaviest_26 : decode cX6_heaviest 26 = .ok (.iconst 0, 1) := o_3 (bg_dX6_heaviest_24 2 3 rfl)
theorem dX6_heaviest_27 : decode cX6_heaviest 27 = .ok (.istore 4, 2) := o_54 (bg_dX6_heaviest_24 3 54 rfl) (bg_dX6_heaviest_24 4 4 rfl)
theorem dX6_heaviest_29 : decode cX6_heaviest 29 = .ok (.sipush 512, 3) := o_17 (bg_dX6_heaviest_24 5 17 rfl) (bg_dX6_heaviest_24 6 2 rfl) (bg_dX6_heaviest_24 7 0 rfl) (by decide +kernel)
theorem dX6_heaviest_32 : decode cX6_heaviest 32 = .ok (.istore 5, 2) := o_54 (bg_dX6_heaviest_24 8 54 rfl) (bg_dX6_heaviest_24 9 5 rfl)
theorem dX6_heaviest_34 : decode cX6_heaviest 34 = .ok (.iload 5, 2) := o_21 (bg_dX6_heaviest_24 10 21 rfl) (bg_dX6_heaviest_24 11 5 rfl)
theorem dX6_heaviest_36 : decode cX6_heaviest 36 = .ok (.ifCond .le 58, 3) := o_158 (bg_dX6_heaviest_24 12 158 rfl) (bg_dX6_heaviest_24 13 0 rfl) (bg_dX6_heaviest_24 14 58 rfl) (by decide +kernel)
theorem dX6_heaviest_39 : decode cX6_heaviest 39 = .ok (.aload_n 0, 1) := o_42 (bg_dX6_heaviest_24 15 42 rfl)
theorem dX6_heaviest_40 : decode cX6_heaviest 40 = .ok (.getfield 10, 3) := o_180 (bg_dX6_heaviest_24 16 180 rfl) (bg_dX6_heaviest_24 17 0 rfl) (bg_dX6_heaviest_24 18 10 rfl)
theorem dX6_heaviest_43 : decode cX6_heaviest 43 = .ok (.getfield 156, 3) := o_180 (bg_dX6_heaviest_24 19 180 rfl) (bg_dX6_heaviest_24 20 0 rfl) (bg_dX6_heaviest_24 21 156 rfl)
theorem dX6_heaviest_46 : decode cX6_heaviest 46 = .ok (.iconst 0, 1) := o_3 (bg_dX6_heaviest_24 22 3 rfl)
theorem dX6_heaviest_47 : decode cX6_heaviest 47 = .ok (.iload 4, 2) := o_21 (bg_dX6_heaviest_24 23 21 rfl) (bg_dX6_heaviest_24 24 4 rfl)
theorem dX6_heaviest_49 : decode cX6_heaviest 49 = .ok (.iload 5, 2) := o_21 (bg_dX6_heaviest_24 25 21 rfl) (bg_dX6_heaviest_24 26 5 rfl)
theorem bg_dX6_heaviest_51 : bysAt cX6_heaviest 51 [96, 79, 21, 4, 21, 5, 96, 17, 3, 132, 163, 0, 24, 42, 180, 0, 28, 27, 3, 28, 29, 182, 1, 29] := bysAt_of (by decide +kernel)
theorem dX6_heaviest_51 : decode cX6_heaviest 51 = .ok (.iadd, 1) := o_96 (bg_dX6_heaviest_51 0 96 rfl)
theorem dX6_heaviest_52 : decode cX6_heaviest 52 = .ok (.iastore, 1) := o_79 (bg_dX6_heaviest_51 1 79 rfl)
theorem dX6_heaviest_53 : decode cX6_heaviest 53 = .ok (.iload 4, 2) := o_21 (bg_dX6_heaviest_51 2 21 rfl) (bg_dX6_heaviest_51 3 4 rfl)
theorem dX6_heaviest_55 : decode cX6_heaviest 55 = .ok (.iload 5, 2) := o_21 (bg_dX6_heaviest_51 4 21 rfl) (bg_dX6_heaviest_51 5 5 rfl)
theorem dX6_heaviest_57 : decode cX6_heaviest 57 = .ok (.iadd, 1) := o_96 (bg_dX6_heaviest_51 6 96 rfl)
theorem dX6_heaviest_58 : decode cX6_heaviest 58 = .ok (.sipush 900, 3) := o_17 (bg_dX6_heaviest_51 7 17 rfl) (bg_dX6_heaviest_51 8 3 rfl) (bg_dX6_heaviest_51 9 132 rfl) (by decide +kernel)
theorem dX6_heaviest_61 : decode cX6_heaviest 61 = .ok (.if_icmp .gt 24, 3) := o_163 (bg_dX6_heaviest_51 10 163 rfl) (bg_dX6_heaviest_51 11 0 rfl) (bg_dX6_heaviest_51 12 24 rfl) (by decide +kernel)
theorem dX6_heaviest_64 : decode cX6_heaviest 64 = .ok (.aload_n 0, 1) := o_42 (bg_dX6_heaviest_51 13 42 rfl)
theorem dX6_heaviest_65 : decode cX6_heaviest 65 = .ok (.getfield 28, 3) := o_180 (bg_dX6_heaviest_51 14 180 rfl) (bg_dX6_heaviest_51 15 0 rfl) (bg_dX6_heaviest_51 16 28 rfl)
theorem dX6_heaviest_68 : decode cX6_heaviest 68 = .ok (.iload_n 1, 1) := o_27 (bg_dX6_heaviest_51 17 27 rfl)
theorem dX6_heaviest_69 : decode cX6_heaviest 69 = .ok (.iconst 0, 1) := o_3 (bg_dX6_heaviest_51 18 3 rfl)
theorem dX6_heaviest_70 : decode cX6_heaviest 70 = .ok (.iload_n 2, 1) := o_28 (bg_dX6_heaviest_51 19 28 rfl)
theorem dX6_heaviest_71 : decode cX6_heaviest 71 = .ok (.iload_n 3, 1) := o_29 (bg_dX6_heaviest_51 20 29 rfl)
theorem dX6_heaviest_72 : decode cX6_heaviest 72 = .ok (.invokevirtual 285, 3) := o_182 (bg_dX6_heaviest_51 21 182 rfl) (bg_dX6_heaviest_51 22 1 rfl) (bg_dX6_heaviest_51 23 29 rfl)
theorem bg_dX6_heaviest_75 : bysAt cX6_heaviest 75 [153, 0, 10, 21, 4, 21, 5, 96, 54, 4, 21, 5, 5, 108, 54, 5, 167, 255, 199, 21, 4, 172] := bysAt_of (by decide +kernel)
theorem dX6_heaviest_75 : decode cX6_heaviest 75 = .ok (.ifCond .eq 10, 3) := o_153 (bg_dX6_heaviest_75 0 153 rfl) (bg_dX6_heaviest_75 1 0 rfl) (bg_dX6_heaviest_75 2 10 rfl) (by decide +kernel)
theorem dX6_heaviest_78 : decode cX6_heaviest 78 = .ok (.iload 4, 2) := o_21 (bg_dX6_heaviest_75 3 21 rfl) (bg_dX6_heaviest_75 4 4 rfl)
theorem dX6_heaviest_80 : decode cX6_heaviest 80 = .ok (.iload 5, 2) := o_21 (bg_dX6_heaviest_75 5 21 rfl) (bg_dX6_heaviest_75 6 5 rfl)
theorem dX6_heaviest_82 : decode cX6_heaviest 82 = .ok (.iadd, 1) := o_96 (bg_dX6_heaviest_75 7 96 rfl)
theorem dX6_heaviest_83 : decode cX6_heaviest 83 = .ok (.istore 4, 2) := o_54 (bg_dX6_heaviest_75 8 54 rfl) (bg_dX6_heaviest_75 9 4 rfl)
theorem dX6_heaviest_85 : decode cX6_heaviest 85 = .ok (.iload 5, 2) := o_21 (bg_dX6_heaviest_75 10 21 rfl) (bg_dX6_heaviest_75 11 5 rfl)
theorem dX6_heaviest_87 : decode cX6_heaviest 87 = .ok (.iconst 2, 1) := o_5 (bg_dX6_heaviest_75 12 5 rfl)
theorem dX6_heaviest_88 : decode cX6_heaviest 88 = .ok (.idiv, 1) := o_108 (bg_dX6_heaviest_75 13 108 rfl)
theorem dX6_heaviest_89 : decode cX6_heaviest 89 = .ok (.istore 5, 2) := o_54 (bg_dX6_heaviest_75 14 54 rfl) (bg_dX6_heaviest_75 15 5 rfl)
theorem dX6_heaviest_91 : decode cX6_heaviest 91 = .ok (.goto (-57), 3) := o_167 (bg_dX6_heaviest_75 16 167 rfl) (bg_dX6_heaviest_75 17 255 rfl) (bg_dX6_heaviest_75 18 199 rfl) (by decide +kernel)
theorem dX6_heaviest_94 : decode cX6_heaviest 94 = .ok (.iload 4, 2) := o_21 (bg_dX6_heaviest_75 19 21 rfl) (bg_dX6_heaviest_75 20 4 rfl)
theorem dX6_heaviest_96 : decode cX6_heaviest 96 = .ok (.ireturn, 1) := o_172 (bg_dX6_heaviest_75 21 172 rfl)
theorem bg_dX6_image_0 : bysAt cX6_image 0 [42, 180, 0, 16, 42, 180, 0, 10, 182, 1, 58, 42, 4, 181, 0, 19, 4, 172] := bysAt_of (by decide +kernel)
theorem dX6_image_0 : decode cX6_image 0 = .ok (.aload_n 0, 1) := o_42 (bg_dX6_image_0 0 42 rfl)
theorem dX6_image_1 : decode cX6_image 1 = .ok (.getfield 16, 3) := o_180 (bg_dX6_image_0 1 180 rfl) (bg_dX6_image_0 2 0 rfl) (bg_dX6_image_0 3 16 rfl)
theorem dX6_image_4 : decode cX6_image 4 = .ok (.aload_n 0, 1) := o_42 (bg_dX6_image_0 4 42 rfl)
theorem dX6_image_5 : decode cX6_image 5 = .ok (.getfield 10, 3) := o_180 (bg_dX6_image_0 5 180 rfl) (bg_dX6_image_0 6 0 rfl) (bg_dX6_image_0 7 10 rfl)
theorem dX6_image_8 : decode cX6_image 8 = .ok (.invokevirtual 314, 3) := o_182 (bg_dX6_image_0 8 182 rfl) (bg_dX6_image_0 9 1 rfl) (bg_dX6_image_0 10 58 rfl)
theorem dX6_image_11 : decode cX6_image 11 = .ok (.aload_n 0, 1) := o_42 (bg_dX6_image_0 11 42 rfl)
theorem dX6_image_12 : decode cX6_image 12 = .ok (.iconst 1, 1) := o_4 (bg_dX6_image_0 12 4 rfl)
theorem dX6_image_13 : decode cX6_image 13 = .ok (.putfield 19, 3) := o_181 (bg_dX6_image_0 13 181 rfl) (bg_dX6_image_0 14 0 rfl) (bg_dX6_image_0 15 19 rfl)
theorem dX6_image_16 : decode cX6_image 16 = .ok (.iconst 1, 1) := o_4 (bg_dX6_image_0 16 4 rfl)
theorem dX6_image_17 : decode cX6_image 17 = .ok (.ireturn, 1) := o_172 (bg_dX6_image_0 17 172 rfl)
theorem bg_dX6_judge_0 : bysAt cX6_judge 0 [42, 27, 28, 29, 21, 4, 21, 5, 182, 1, 0, 54, 6, 21, 6, 153, 0, 10, 42, 21, 6, 182, 0, 70, 172] := bysAt_of (by decide +kernel)
theorem dX6_judge_0 : decode cX6_judge 0 = .ok (.aload_n 0, 1) := o_42 (bg_dX6_judge_0 0 42 rfl)
theorem dX6_judge_1 : decode cX6_judge 1 = .ok (.iload_n 1, 1) := o_27 (bg_dX6_judge_0 1 27 rfl)
theorem dX6_judge_2 : decode cX6_judge 2 = .ok (.iload_n 2, 1) := o_28 (bg_dX6_judge_0 2 28 rfl)
theorem dX6_judge_3 : decode cX6_judge 3 = .ok (.iload_n 3, 1) := o_29 (bg_dX6_judge_0 3 29 rfl)
theorem dX6_judge_4 : decode cX6_judge 4 = .ok (.iload 4, 2) := o_21 (bg_dX6_judge_0 4 21 rfl) (bg_dX6_judge_0 5 4 rfl)
theorem dX6_judge_6 : decode cX6_judge 6 = .ok (.iload 5, 2) := o_21 (bg_dX6_judge_0 6 21 rfl) (bg_dX6_judge_0 7 5 rfl)
theorem dX6_judge_8 : decode cX6_judge 8 = .ok (.invokevirtual 256, 3) := o_182 (bg_dX6_judge_0 8 182 rfl) (bg_dX6_judge_0 9 1 rfl) (bg_dX6_judge_0 10 0 rfl)
theorem dX6_judge_11 : decode cX6_judge 11 = .ok (.istore 6, 2) := o_54 (bg_dX6_judge_0 11 54 rfl) (bg_dX6_judge_0 12 6 rfl)
theorem dX6_judge_13 : decode cX6_judge 13 = .ok (.iload 6, 2) := o_21 (bg_dX6_judge_0 13 21 rfl) (bg_dX6_judge_0 14 6 rfl)
theorem dX6_judge_15 : decode cX6_judge 15 = .ok (.ifCond .eq 10, 3) := o_153 (bg_dX6_judge_0 15 153 rfl) (bg_dX6_judge_0 16 0 rfl) (bg_dX6_judge_0 17 10 rfl) (by decide +kernel)
theorem dX6_judge_18 : decode cX6_judge 18 = .ok (.aload_n 0, 1) := o_42 (bg_dX6_judge_0 18 42 rfl)
theorem dX6_judge_19 : decode cX6_judge 19 = .ok (.iload 6, 2) := o_21 (bg_dX6_judge_0 19 21 rfl) (bg_dX6_judge_0 20 6 rfl)
theorem dX6_judge_21 : decode cX6_judge 21 = .ok (.invokevirtual 70, 3) := o_182 (bg_dX6_judge_0 21 182 rfl) (bg_dX6_judge_0 22 0 rfl) (bg_dX6_judge_0 23 70 rfl)
theorem dX6_judge_24 : decode cX6_judge 24 = .ok (.ireturn, 1) := o_172 (bg_dX6_judge_0 24 172 rfl)
theorem bg_dX6_judge_25 : bysAt cX6_judge 25 [42, 180, 0, 28, 27, 28, 182, 0, 223, 42, 29, 21, 4, 21, 5, 182, 1, 3, 172] := bysAt_of (by decide +kernel)
theorem dX6_judge_25 : decode cX6_judge 25 = .ok (.aload_n 0, 1) := o_42 (bg_dX6_judge_25 0 42 rfl)
theorem dX6_judge_26 : decode cX6_judge 26 = .ok (.getfield 28, 3) := o_180 (bg_dX6_judge_25 1 180 rfl) (bg_dX6_judge_25 2 0 rfl) (bg_dX6_judge_25 3 28 rfl)
theorem dX6_judge_29 : decode cX6_judge 29 = .ok (.iload_n 1, 1) := o_27 (bg_dX6_judge_25 4 27 rfl)
theorem dX6_judge_30 : decode cX6_judge 30 = .ok (.iload_n 2, 1) := o_28 (bg_dX6_judge_25 5 28 rfl)
theorem dX6_judge_31 : decode cX6_judge 31 = .ok (.invokevirtual 223, 3) := o_182 (bg_dX6_judge_25 6 182 rfl) (bg_dX6_judge_25 7 0 rfl) (bg_dX6_judge_25 8 223 rfl)
theorem dX6_judge_34 : decode cX6_judge 34 = .ok (.aload_n 0, 1) := o_42 (bg_dX6_judge_25 9 42 rfl)
theorem dX6_judge_35 : decode cX6_judge 35 = .ok (.iload_n 3, 1) := o_29 (bg_dX6_judge_25 10 29 rfl)
theorem dX6_judge_36 : decode cX6_judge 36 = .ok (.iload 4, 2) := o_21 (bg_dX6_judge_25 11 21 rfl) (bg_dX6_judge_25 12 4 rfl)
theorem dX6_judge_38 : decode cX6_judge 38 = .ok (.iload 5, 2) := o_21 (bg_dX6_judge_25 13 21 rfl) (bg_dX6_judge_25 14 5 rfl)
theorem dX6_judge_40 : decode cX6_judge 40 = .ok (.invokevirtual 259, 3) := o_182 (bg_dX6_judge_25 15 182 rfl) (bg_dX6_judge_25 16 1 rfl) (bg_dX6_judge_25 17 3 rfl)
theorem dX6_judge_43 : decode cX6_judge 43 = .ok (.ireturn, 1) := o_172 (bg_dX6_judge_25 18 172 rfl)
theorem bg_dX6_most_0 : bysAt cX6_most 0 [42, 27, 182, 0, 194, 153, 0, 17, 28, 184, 0, 126, 153, 0, 10, 29, 184, 0, 126, 154, 0, 10, 42, 16, 254, 182, 0, 70, 172] := bysAt_of (by decide +kernel)
theorem dX6_most_0 : decode cX6_most 0 = .ok (.aload_n 0, 1) := o_42 (bg_dX6_most_0 0 42 rfl)
theorem dX6_most_1 : decode cX6_most 1 = .ok (.iload_n 1, 1) := o_27 (bg_dX6_most_0 1 27 rfl)
theorem dX6_most_2 : decode cX6_most 2 = .ok (.invokevirtual 194, 3) := o_182 (bg_dX6_most_0 2 182 rfl) (bg_dX6_most_0 3 0 rfl) (bg_dX6_most_0 4 194 rfl)
theorem dX6_most_5 : decode cX6_most 5 = .ok (.ifCond .eq 17, 3) := o_153 (bg_dX6_most_0 5 153 rfl) (bg_dX6_most_0 6 0 rfl) (bg_dX6_most_0 7 17 rfl) (by decide +kernel)
theorem dX6_most_8 : decode cX6_most 8 = .ok (.iload_n 2, 1) := o_28 (bg_dX6_most_0 8 28 rfl)
theorem dX6_most_9 : decode cX6_most 9 = .ok (.invokestatic 126, 3) := o_184 (bg_dX6_most_0 9 184 rfl) (bg_dX6_most_0 10 0 rfl) (bg_dX6_most_0 11 126 rfl)
theorem dX6_most_12 : decode cX6_most 12 = .ok (.ifCond .eq 10, 3) := o_153 (bg_dX6_most_0 12 153 rfl) (bg_dX6_most_0 13 0 rfl) (bg_dX6_most_0 14 10 rfl) (by decide +kernel)
theorem dX6_most_15 : decode cX6_most 15 = .ok (.iload_n 3, 1) := o_29 (bg_dX6_most_0 15 29 rfl)
theorem dX6_most_16 : decode cX6_most 16 = .ok (.invokestatic 126, 3) := o_184 (bg_dX6_most_0 16 184 rfl) (bg_dX6_most_0 17 0 rfl) (bg_dX6_most_0 18 126 rfl)
theorem dX6_most_19 : decode cX6_most 19 = .ok (.ifCond .ne 10, 3) := o_154 (bg_dX6_most_0 19 154 rfl) (bg_dX6_most_0 20 0 rfl) (bg_dX6_most_0 21 10 rfl) (by decide +kernel)
theorem dX6_most_22 : decode cX6_most 22 = .ok (.aload_n 0, 1) := o_42 (bg_dX6_most_0 22 42 rfl)
theorem dX6_most_23 : decode cX6_most 23 = .ok (.bipush (-2), 2) := o_16 (bg_dX6_most_0 23 16 rfl) (bg_dX6_most_0 24 254 rfl) (by decide +kernel)
theorem dX6_most_25 : decode cX6_most 25 = .ok (.invokevirtual 70, 3) := o_182 (bg_dX6_most_0 25 182 rfl) (bg_dX6_most_0 26 0 rfl) (bg_dX6_most_0 27 70 rfl)
theorem dX6_most_28 : decode cX6_most 28 = .ok (.ireturn, 1) := o_172 (bg_dX6_most_0 28 172 rfl)
theorem bg_dX6_most_29 : bysAt cX6_most 29 [42, 180, 0, 10, 180, 0, 156, 3, 46, 54, 4, 42, 27, 28, 29, 182, 1, 32, 54, 5, 42, 180, 0, 10] := bysAt_of (by decide +kernel)
theorem dX6_most_29 : decode cX6_most 29 = .ok (.aload_n 0, 1) := o_42 (bg_dX6_most_29 0 42 rfl)
theorem dX6_most_30 : decode cX6_most 30 = .ok (.getfield 10, 3) := o_180 (bg_dX6_most_29 1 180 rfl) (bg_dX6_most_29 2 0 rfl) (bg_dX6_most_29 3 10 rfl)
theorem dX6_most_33 : decode cX6_most 33 = .ok (.getfield 156, 3) := o_180 (bg_dX6_most_29 4 180 rfl) (bg_dX6_most_29 5 0 rfl) (bg_dX6_most_29 6 156 rfl)
theorem dX6_most_36 : decode cX6_most 36 = .ok (.iconst 0, 1) := o_3 (bg_dX6_most_29 7 3 rfl)
theorem dX6_most_37 : decode cX6_most 37 = .ok (.iaload, 1) := o_46 (bg_dX6_most_29 8 46 rfl)
theorem dX6_most_38 : decode cX6_most 38 = .ok (.istore 4, 2) := o_54 (bg_dX6_most_29 9 54 rfl) (bg_dX6_most_29 10 4 rfl)
theorem dX6_most_40 : decode cX6_most 40 = .ok (.aload_n 0, 1) := o_42 (bg_dX6_most_29 11 42 rfl)
theorem dX6_most_41 : decode cX6_most 41 = .ok (.iload_n 1, 1) := o_27 (bg_dX6_most_29 12 27 rfl)
theorem dX6_most_42 : decode cX6_most 42 = .ok (.iload_n 2, 1) := o_28 (bg_dX6_most_29 13 28 rfl)
theorem dX6_most_43 : decode cX6_most 43 = .ok (.iload_n 3, 1) := o_29 (bg_dX6_most_29 14 29 rfl)
theorem dX6_most_44 : decode cX6_most 44 = .ok (.invokevirtual 288, 3) := o_182 (bg_dX6_most_29 15 182 rfl) (bg_dX6_most_29 16 1 rfl) (bg_dX6_most_29 17 32 rfl)
theorem dX6_most_47 : decode cX6_most 47 = .ok (.istore 5, 2) := o_54 (bg_dX6_most_29 18 54 rfl) (bg_dX6_most_29 19 5 rfl)
theorem dX6_most_49 : decode cX6_most 49 = .ok (.aload_n 0, 1) := o_42 (bg_dX6_most_29 20 42 rfl)
theorem dX6_most_50 : decode cX6_most 50 = .ok (.getfield 10, 3) := o_180 (bg_dX6_most_29 21 180 rfl) (bg_dX6_most_29 22 0 rfl) (bg_dX6_most_29 23 10 rfl)
theorem bg_dX6_most_53 : bysAt cX6_most 53 [180, 0, 156, 3, 21, 4, 79, 21, 5, 2, 160, 0, 12, 42, 16, 251, 182, 0, 70, 167, 0, 5, 21, 5, 172] := bysAt_of (by decide +kernel)
theorem dX6_most_53 : decode cX6_most 53 = .ok (.getfield 156, 3) := o_180 (bg_dX6_most_53 0 180 rfl) (bg_dX6_most_53 1 0 rfl) (bg_dX6_most_53 2 156 rfl)
theorem dX6_most_56 : decode cX6_most 56 = .ok (.iconst 0, 1) := o_3 (bg_dX6_most_53 3 3 rfl)
theorem dX6_most_57 : decode cX6_most 57 = .ok (.iload 4, 2) := o_21 (bg_dX6_most_53 4 21 rfl) (bg_dX6_most_53 5 4 rfl)
theorem dX6_most_59 : decode cX6_most 59 = .ok (.iastore, 1) := o_79 (bg_dX6_most_53 6 79 rfl)
theorem dX6_most_60 : decode cX6_most 60 = .ok (.iload 5, 2) := o_21 (bg_dX6_most_53 7 21 rfl) (bg_dX6_most_53 8 5 rfl)
theorem dX6_most_62 : decode cX6_most 62 = .ok (.iconst (-1), 1) := o_2 (bg_dX6_most_53 9 2 rfl)
theorem dX6_most_63 : decode cX6_most 63 = .ok (.if_icmp .ne 12, 3) := o_160 (bg_dX6_most_53 10 160 rfl) (bg_dX6_most_53 11 0 rfl) (bg_dX6_most_53 12 12 rfl) (by decide +kernel)
theorem dX6_most_66 : decode cX6_most 66 = .ok (.aload_n 0, 1) := o_42 (bg_dX6_most_53 13 42 rfl)
theorem dX6_most_67 : decode cX6_most 67 = .ok (.bipush (-5), 2) := o_16 (bg_dX6_most_53 14 16 rfl) (bg_dX6_most_53 15 251 rfl) (by decide +kernel)
theorem dX6_most_69 : decode cX6_most 69 = .ok (.invokevirtual 70, 3) := o_182 (bg_dX6_most_53 16 182 rfl) (bg_dX6_most_53 17 0 rfl) (bg_dX6_most_53 18 70 rfl)
theorem dX6_most_72 : decode cX6_most 72 = .ok (.goto 5, 3) := o_167 (bg_dX6_most_53 19 167 rfl) (bg_dX6_most_53 20 0 rfl) (bg_dX6_most_53 21 5 rfl) (by decide +kernel)
theorem dX6_most_75 : decode cX6_most 75 = .ok (.iload 5, 2) := o_21 (bg_dX6_most_53 22 21 rfl) (bg_dX6_most_53 23 5 rfl)
theorem dX6_most_77 : decode cX6_most 77 = .ok (.ireturn, 1) := o_172 (bg_dX6_most_53 24 172 rfl)
theorem bg_dX6_reach_0 : bysAt cX6_reach 0 [42, 27, 28, 182, 0, 200, 153, 0, 10, 29, 184, 0, 126, 154, 0, 10, 42, 16, 254, 182, 0, 70, 172, 42, 180, 0, 28] := bysAt_of (by decide +kernel)
theorem dX6_reach_0 : decode cX6_reach 0 = .ok (.aload_n 0, 1) := o_42 (bg_dX6_reach_0 0 42 rfl)
theorem dX6_reach_1 : decode cX6_reach 1 = .ok (.iload_n 1, 1) := o_27 (bg_dX6_reach_0 1 27 rfl)
theorem dX6_reach_2 : decode cX6_reach 2 = .ok (.iload_n 2, 1) := o_28 (bg_dX6_reach_0 2 28 rfl)
theorem dX6_reach_3 : decode cX6_reach 3 = .ok (.invokevirtual 200, 3) := o_182 (bg_dX6_reach_0 3 182 rfl) (bg_dX6_reach_0 4 0 rfl) (bg_dX6_reach_0 5 200 rfl)
theorem dX6_reach_6 : decode cX6_reach 6 = .ok (.ifCond .eq 10, 3) := o_153 (bg_dX6_reach_0 6 153 rfl) (bg_dX6_reach_0 7 0 rfl) (bg_dX6_reach_0 8 10 rfl) (by decide +kernel)
theorem dX6_reach_9 : decode cX6_reach 9 = .ok (.iload_n 3, 1) := o_29 (bg_dX6_reach_0 9 29 rfl)
theorem dX6_reach_10 : decode cX6_reach 10 = .ok (.invokestatic 126, 3) := o_184 (bg_dX6_reach_0 10 184 rfl) (bg_dX6_reach_0 11 0 rfl) (bg_dX6_reach_0 12 126 rfl)
theorem dX6_reach_13 : decode cX6_reach 13 = .ok (.ifCond .ne 10, 3) := o_154 (bg_dX6_reach_0 13 154 rfl) (bg_dX6_reach_0 14 0 rfl) (bg_dX6_reach_0 15 10 rfl) (by decide +kernel)
theorem dX6_reach_16 : decode cX6_reach 16 = .ok (.aload_n 0, 1) := o_42 (bg_dX6_reach_0 16 42 rfl)
theorem dX6_reach_17 : decode cX6_reach 17 = .ok (.bipush (-2), 2) := o_16 (bg_dX6_reach_0 17 16 rfl) (bg_dX6_reach_0 18 254 rfl) (by decide +kernel)
theorem dX6_reach_19 : decode cX6_reach 19 = .ok (.invokevirtual 70, 3) := o_182 (bg_dX6_reach_0 19 182 rfl) (bg_dX6_reach_0 20 0 rfl) (bg_dX6_reach_0 21 70 rfl)
theorem dX6_reach_22 : decode cX6_reach 22 = .ok (.ireturn, 1) := o_172 (bg_dX6_reach_0 22 172 rfl)
theorem dX6_reach_23 : decode cX6_reach 23 = .ok (.aload_n 0, 1) := o_42 (bg_dX6_reach_0 23 42 rfl)
theorem dX6_reach_24 : decode cX6_reach 24 = .ok (.getfield 28, 3) := o_180 (bg_dX6_reach_0 24 180 rfl) (bg_dX6_reach_0 25 0 rfl) (bg_dX6_reach_0 26 28 rfl)
theorem bg_dX6_reach_27 : bysAt cX6_reach 27 [27, 28, 29, 182, 1, 14, 172] := bysAt_of (by decide +kernel)
theorem dX6_reach_27 : decode cX6_reach 27 = .ok (.iload_n 1, 1) := o_27 (bg_dX6_reach_27 0 27 rfl)
theorem dX6_reach_28 : decode cX6_reach 28 = .ok (.iload_n 2, 1) := o_28 (bg_dX6_reach_27 1 28 rfl)
theorem dX6_reach_29 : decode cX6_reach 29 = .ok (.iload_n 3, 1) := o_29 (bg_dX6_reach_27 2 29 rfl)
theorem dX6_reach_30 : decode cX6_reach 30 = .ok (.invokevirtual 270, 3) := o_182 (bg_dX6_reach_27 3 182 rfl) (bg_dX6_reach_27 4 1 rfl) (bg_dX6_reach_27 5 14 rfl)
theorem dX6_reach_33 : decode cX6_reach 33 = .ok (.ireturn, 1) := o_172 (bg_dX6_reach_27 6 172 rfl)
theorem bg_dX6_soonest_0 : bysAt cX6_soonest 0 [42, 27, 28, 29, 21, 4, 182, 0, 238, 154, 0, 10, 42, 16, 254, 182, 0, 70, 172, 42, 42, 180, 0, 28] := bysAt_of (by decide +kernel)
theorem dX6_soonest_0 : decode cX6_soonest 0 = .ok (.aload_n 0, 1) := o_42 (bg_dX6_soonest_0 0 42 rfl)
theorem dX6_soonest_1 : decode cX6_soonest 1 = .ok (.iload_n 1, 1) := o_27 (bg_dX6_soonest_0 1 27 rfl)
theorem dX6_soonest_2 : decode cX6_soonest 2 = .ok (.iload_n 2, 1) := o_28 (bg_dX6_soonest_0 2 28 rfl)
theorem dX6_soonest_3 : decode cX6_soonest 3 = .ok (.iload_n 3, 1) := o_29 (bg_dX6_soonest_0 3 29 rfl)
theorem dX6_soonest_4 : decode cX6_soonest 4 = .ok (.iload 4, 2) := o_21 (bg_dX6_soonest_0 4 21 rfl) (bg_dX6_soonest_0 5 4 rfl)
theorem dX6_soonest_6 : decode cX6_soonest 6 = .ok (.invokevirtual 238, 3) := o_182 (bg_dX6_soonest_0 6 182 rfl) (bg_dX6_soonest_0 7 0 rfl) (bg_dX6_soonest_0 8 238 rfl)
theorem dX6_soonest_9 : decode cX6_soonest 9 = .ok (.ifCond .ne 10, 3) := o_154 (bg_dX6_soonest_0 9 154 rfl) (bg_dX6_soonest_0 10 0 rfl) (bg_dX6_soonest_0 11 10 rfl) (by decide +kernel)
theorem dX6_soonest_12 : decode cX6_soonest 12 = .ok (.aload_n 0, 1) := o_42 (bg_dX6_soonest_0 12 42 rfl)
theorem dX6_soonest_13 : decode cX6_soonest 13 = .ok (.bipush (-2), 2) := o_16 (bg_dX6_soonest_0 13 16 rfl) (bg_dX6_soonest_0 14 254 rfl) (by decide +kernel)
theorem dX6_soonest_15 : decode cX6_soonest 15 = .ok (.invokevirtual 70, 3) := o_182 (bg_dX6_soonest_0 15 182 rfl) (bg_dX6_soonest_0 16 0 rfl) (bg_dX6_soonest_0 17 70 rfl)
theorem dX6_soonest_18 : decode cX6_soonest 18 = .ok (.ireturn, 1) := o_172 (bg_dX6_soonest_0 18 172 rfl)
theorem dX6_soonest_19 : decode cX6_soonest 19 = .ok (.aload_n 0, 1) := o_42 (bg_dX6_soonest_0 19 42 rfl)
theorem dX6_soonest_20 : decode cX6_soonest 20 = .ok (.aload_n 0, 1) := o_42 (bg_dX6_soonest_0 20 42 rfl)
theorem dX6_soonest_21 : decode cX6_soonest 21 = .ok (.getfield 28, 3) := o_180 (bg_dX6_soonest_0 21 180 rfl) (bg_dX6_soonest_0 22 0 rfl) (bg_dX6_soonest_0 23 28 rfl)
theorem bg_dX6_soonest_24 : bysAt cX6_soonest 24 [27, 28, 29, 21, 4, 182, 0, 248, 182, 0, 245, 172] := bysAt_of (by decide +kernel)
theorem dX6_soonest_24 : decode cX6_soonest 24 = .ok (.iload_n 1, 1) := o_27 (bg_dX6_soonest_24 0 27 rfl)
theorem dX6_soonest_25 : decode cX6_soonest 25 = .ok (.iload_n 2, 1) := o_28 (bg_dX6_soonest_24 1 28 rfl)
theorem dX6_soonest_26 : decode cX6_soonest 26 = .ok (.iload_n 3, 1) := o_29 (bg_dX6_soonest_24 2 29 rfl)
theorem dX6_soonest_27 : decode cX6_soonest 27 = .ok (.iload 4, 2) := o_21 (bg_dX6_soonest_24 3 21 rfl) (bg_dX6_soonest_24 4 4 rfl)
theorem dX6_soonest_29 : decode cX6_soonest 29 = .ok (.invokevirtual 248, 3) := o_182 (bg_dX6_soonest_24 5 182 rfl) (bg_dX6_soonest_24 6 0 rfl) (bg_dX6_soonest_24 7 248 rfl)
theorem dX6_soonest_32 : decode cX6_soonest 32 = .ok (.invokevirtual 245, 3) := o_182 (bg_dX6_soonest_24 8 182 rfl) (bg_dX6_soonest_24 9 0 rfl) (bg_dX6_soonest_24 10 245 rfl)
theorem dX6_soonest_35 : decode cX6_soonest 35 = .ok (.ireturn, 1) := o_172 (bg_dX6_soonest_24 11 172 rfl)
theorem bg_dX6_status_0 : bysAt cX6_status 0 [27, 3, 6, 184, 0, 66, 153, 0, 13, 42, 180, 0, 10, 180, 1, 17, 27, 46, 172, 27, 16, 12, 16, 16] := bysAt_of (by decide +kernel)
theorem dX6_status_0 : decode cX6_status 0 = .ok (.iload_n 1, 1) := o_27 (bg_dX6_status_0 0 27 rfl)
theorem dX6_status_1 : decode cX6_status 1 = .ok (.iconst 0, 1) := o_3 (bg_dX6_status_0 1 3 rfl)
theorem dX6_status_2 : decode cX6_status 2 = .ok (.iconst 3, 1) := o_6 (bg_dX6_status_0 2 6 rfl)
theorem dX6_status_3 : decode cX6_status 3 = .ok (.invokestatic 66, 3) := o_184 (bg_dX6_status_0 3 184 rfl) (bg_dX6_status_0 4 0 rfl) (bg_dX6_status_0 5 66 rfl)
theorem dX6_status_6 : decode cX6_status 6 = .ok (.ifCond .eq 13, 3) := o_153 (bg_dX6_status_0 6 153 rfl) (bg_dX6_status_0 7 0 rfl) (bg_dX6_status_0 8 13 rfl) (by decide +kernel)
theorem dX6_status_9 : decode cX6_status 9 = .ok (.aload_n 0, 1) := o_42 (bg_dX6_status_0 9 42 rfl)
theorem dX6_status_10 : decode cX6_status 10 = .ok (.getfield 10, 3) := o_180 (bg_dX6_status_0 10 180 rfl) (bg_dX6_status_0 11 0 rfl) (bg_dX6_status_0 12 10 rfl)
theorem dX6_status_13 : decode cX6_status 13 = .ok (.getfield 273, 3) := o_180 (bg_dX6_status_0 13 180 rfl) (bg_dX6_status_0 14 1 rfl) (bg_dX6_status_0 15 17 rfl)
theorem dX6_status_16 : decode cX6_status 16 = .ok (.iload_n 1, 1) := o_27 (bg_dX6_status_0 16 27 rfl)
theorem dX6_status_17 : decode cX6_status 17 = .ok (.iaload, 1) := o_46 (bg_dX6_status_0 17 46 rfl)
theorem dX6_status_18 : decode cX6_status 18 = .ok (.ireturn, 1) := o_172 (bg_dX6_status_0 18 172 rfl)
theorem dX6_status_19 : decode cX6_status 19 = .ok (.iload_n 1, 1) := o_27 (bg_dX6_status_0 19 27 rfl)
theorem dX6_status_20 : decode cX6_status 20 = .ok (.bipush 12, 2) := o_16 (bg_dX6_status_0 20 16 rfl) (bg_dX6_status_0 21 12 rfl) (by decide +kernel)
theorem dX6_status_22 : decode cX6_status 22 = .ok (.bipush 16, 2) := o_16 (bg_dX6_status_0 22 16 rfl) (bg_dX6_status_0 23 16 rfl) (by decide +kernel)
theorem bg_dX6_status_24 : bysAt cX6_status 24 [184, 0, 66, 153, 0, 13, 42, 180, 0, 55, 27, 16, 12, 100, 46, 172, 27] := bysAt_of (by decide +kernel)
theorem dX6_status_24 : decode cX6_status 24 = .ok (.invokestatic 66, 3) := o_184 (bg_dX6_status_24 0 184 rfl) (bg_dX6_status_24 1 0 rfl) (bg_dX6_status_24 2 66 rfl)
theorem dX6_status_27 : decode cX6_status 27 = .ok (.ifCond .eq 13, 3) := o_153 (bg_dX6_status_24 3 153 rfl) (bg_dX6_status_24 4 0 rfl) (bg_dX6_status_24 5 13 rfl) (by decide +kernel)
theorem dX6_status_30 : decode cX6_status 30 = .ok (.aload_n 0, 1) := o_42 (bg_dX6_status_24 6 42 rfl)
theorem dX6_status_31 : decode cX6_status 31 = .ok (.getfield 55, 3) := o_180 (bg_dX6_status_24 7 180 rfl) (bg_dX6_status_24 8 0 rfl) (bg_dX6_status_24 9 55 rfl)
theorem dX6_status_34 : decode cX6_status 34 = .ok (.iload_n 1, 1) := o_27 (bg_dX6_status_24 10 27 rfl)
theorem dX6_status_35 : decode cX6_status 35 = .ok (.bipush 12, 2) := o_16 (bg_dX6_status_24 11 16 rfl) (bg_dX6_status_24 12 12 rfl) (by decide +kernel)
theorem dX6_status_37 : decode cX6_status 37 = .ok (.isub, 1) := o_100 (bg_dX6_status_24 13 100 rfl)
theorem dX6_status_38 : decode cX6_status 38 = .ok (.iaload, 1) := o_46 (bg_dX6_status_24 14 46 rfl)
theorem dX6_status_39 : decode cX6_status 39 = .ok (.ireturn, 1) := o_172 (bg_dX6_status_24 15 172 rfl)
theorem dX6_status_40 : decode cX6_status 40 = .ok (.iload_n 1, 1) := o_27 (bg_dX6_status_24 16 27 rfl)
theorem bg_dX6_status_72 : bysAt cX6_status 72 [42, 180, 0, 42, 180, 0, 171, 172, 42, 180, 0, 35, 182, 1, 64, 172, 42, 180, 0, 10, 16, 7, 182, 1, 67, 172, 42] := bysAt_of (by decide +kernel)
theorem dX6_status_72 : decode cX6_status 72 = .ok (.aload_n 0, 1) := o_42 (bg_dX6_status_72 0 42 rfl)
theorem dX6_status_73 : decode cX6_status 73 = .ok (.getfield 42, 3) := o_180 (bg_dX6_status_72 1 180 rfl) (bg_dX6_status_72 2 0 rfl) (bg_dX6_status_72 3 42 rfl)
theorem dX6_status_76 : decode cX6_status 76 = .ok (.getfield 171, 3) := o_180 (bg_dX6_status_72 4 180 rfl) (bg_dX6_status_72 5 0 rfl) (bg_dX6_status_72 6 171 rfl)
theorem dX6_status_79 : decode cX6_status 79 = .ok (.ireturn, 1) := o_172 (bg_dX6_status_72 7 172 rfl)
theorem dX6_status_80 : decode cX6_status 80 = .ok (.aload_n 0, 1) := o_42 (bg_dX6_status_72 8 42 rfl)
theorem dX6_status_81 : decode cX6_status 81 = .ok (.getfield 35, 3) := o_180 (bg_dX6_status_72 9 180 rfl) (bg_dX6_status_72 10 0 rfl) (bg_dX6_status_72 11 35 rfl)
theorem dX6_status_84 : decode cX6_status 84 = .ok (.invokevirtual 320, 3) := o_182 (bg_dX6_status_72 12 182 rfl) (bg_dX6_status_72 13 1 rfl) (bg_dX6_status_72 14 64 rfl)
theorem dX6_status_87 : decode cX6_status 87 = .ok (.ireturn, 1) := o_172 (bg_dX6_status_72 15 172 rfl)
theorem dX6_status_88 : decode cX6_status 88 = .ok (.aload_n 0, 1) := o_42 (bg_dX6_status_72 16 42 rfl)
theorem dX6_status_89 : decode cX6_status 89 = .ok (.getfield 10, 3) := o_180 (bg_dX6_status_72 17 180 rfl) (bg_dX6_status_72 18 0 rfl) (bg_dX6_status_72 19 10 rfl)
theorem dX6_status_92 : decode cX6_status 92 = .ok (.bipush 7, 2) := o_16 (bg_dX6_status_72 20 16 rfl) (bg_dX6_status_72 21 7 rfl) (by decide +kernel)
theorem dX6_status_94 : decode cX6_status 94 = .ok (.invokevirtual 323, 3) := o_182 (bg_dX6_status_72 22 182 rfl) (bg_dX6_status_72 23 1 rfl) (bg_dX6_status_72 24 67 rfl)
theorem dX6_status_97 : decode cX6_status 97 = .ok (.ireturn, 1) := o_172 (bg_dX6_status_72 25 172 rfl)
theorem dX6_status_98 : decode cX6_status 98 = .ok (.aload_n 0, 1) := o_42 (bg_dX6_status_72 26 42 rfl)
theorem bg_dX6_status_99 : bysAt cX6_status 99 [180, 0, 10, 16, 8, 182, 1, 67, 172, 2, 172] := bysAt_of (by decide +kernel)
theorem dX6_status_99 : decode cX6_status 99 = .ok (.getfield 10, 3) := o_180 (bg_dX6_status_99 0 180 rfl) (bg_dX6_status_99 1 0 rfl) (bg_dX6_status_99 2 10 rfl)
theorem dX6_status_102 : decode cX6_status 102 = .ok (.bipush 8, 2) := o_16 (bg_dX6_status_99 3 16 rfl) (bg_dX6_status_99 4 8 rfl) (by decide +kernel)
theorem dX6_status_104 : decode cX6_status 104 = .ok (.invokevirtual 323, 3) := o_182 (bg_dX6_status_99 5 182 rfl) (bg_dX6_status_99 6 1 rfl) (bg_dX6_status_99 7 67 rfl)
theorem dX6_status_107 : decode cX6_status 107 = .ok (.ireturn, 1) := o_172 (bg_dX6_status_99 8 172 rfl)
theorem dX6_status_108 : decode cX6_status 108 = .ok (.iconst (-1), 1) := o_2 (bg_dX6_status_99 9 2 rfl)
theorem dX6_status_109 : decode cX6_status 109 = .ok (.ireturn, 1) := o_172 (bg_dX6_status_99 10 172 rfl)
theorem bg_dX6_step_0 : bysAt cX6_step 0 [42, 180, 0, 10, 180, 1, 45, 76, 42, 180, 0, 10, 180, 1, 48, 153, 0, 12, 43, 3, 46, 43, 4, 46] := bysAt_of (by decide +kernel)
theorem dX6_step_0 : decode cX6_step 0 = .ok (.aload_n 0, 1) := o_42 (bg_dX6_step_0 0 42 rfl)
theorem dX6_step_1 : decode cX6_step 1 = .ok (.getfield 10, 3) := o_180 (bg_dX6_step_0 1 180 rfl) (bg_dX6_step_0 2 0 rfl) (bg_dX6_step_0 3 10 rfl)
theorem dX6_step_4 : decode cX6_step 4 = .ok (.getfield 301, 3) := o_180 (bg_dX6_step_0 4 180 rfl) (bg_dX6_step_0 5 1 rfl) (bg_dX6_step_0 6 45 rfl)
theorem dX6_step_7 : decode cX6_step 7 = .ok (.astore_n 1, 1) := o_76 (bg_dX6_step_0 7 76 rfl)
theorem dX6_step_8 : decode cX6_step 8 = .ok (.aload_n 0, 1) := o_42 (bg_dX6_step_0 8 42 rfl)
theorem dX6_step_9 : decode cX6_step 9 = .ok (.getfield 10, 3) := o_180 (bg_dX6_step_0 9 180 rfl) (bg_dX6_step_0 10 0 rfl) (bg_dX6_step_0 11 10 rfl)
theorem dX6_step_12 : decode cX6_step 12 = .ok (.getfield 304, 3) := o_180 (bg_dX6_step_0 12 180 rfl) (bg_dX6_step_0 13 1 rfl) (bg_dX6_step_0 14 48 rfl)
theorem dX6_step_15 : decode cX6_step 15 = .ok (.ifCond .eq 12, 3) := o_153 (bg_dX6_step_0 15 153 rfl) (bg_dX6_step_0 16 0 rfl) (bg_dX6_step_0 17 12 rfl) (by decide +kernel)
theorem dX6_step_18 : decode cX6_step 18 = .ok (.aload_n 1, 1) := o_43 (bg_dX6_step_0 18 43 rfl)
theorem dX6_step_19 : decode cX6_step 19 = .ok (.iconst 0, 1) := o_3 (bg_dX6_step_0 19 3 rfl)
theorem dX6_step_20 : decode cX6_step 20 = .ok (.iaload, 1) := o_46 (bg_dX6_step_0 20 46 rfl)
theorem dX6_step_21 : decode cX6_step 21 = .ok (.aload_n 1, 1) := o_43 (bg_dX6_step_0 21 43 rfl)
theorem dX6_step_22 : decode cX6_step 22 = .ok (.iconst 1, 1) := o_4 (bg_dX6_step_0 22 4 rfl)
theorem dX6_step_23 : decode cX6_step 23 = .ok (.iaload, 1) := o_46 (bg_dX6_step_0 23 46 rfl)
theorem bg_dX6_step_24 : bysAt cX6_step 24 [160, 0, 10, 42, 16, 251, 182, 0, 70, 172, 42, 180, 0, 28, 43, 8, 46, 43, 16, 6, 46, 43] := bysAt_of (by decide +kernel)
theorem dX6_step_24 : decode cX6_step 24 = .ok (.if_icmp .ne 10, 3) := o_160 (bg_dX6_step_24 0 160 rfl) (bg_dX6_step_24 1 0 rfl) (bg_dX6_step_24 2 10 rfl) (by decide +kernel)
theorem dX6_step_27 : decode cX6_step 27 = .ok (.aload_n 0, 1) := o_42 (bg_dX6_step_24 3 42 rfl)
theorem dX6_step_28 : decode cX6_step 28 = .ok (.bipush (-5), 2) := o_16 (bg_dX6_step_24 4 16 rfl) (bg_dX6_step_24 5 251 rfl) (by decide +kernel)
theorem dX6_step_30 : decode cX6_step 30 = .ok (.invokevirtual 70, 3) := o_182 (bg_dX6_step_24 6 182 rfl) (bg_dX6_step_24 7 0 rfl) (bg_dX6_step_24 8 70 rfl)
theorem dX6_step_33 : decode cX6_step 33 = .ok (.ireturn, 1) := o_172 (bg_dX6_step_24 9 172 rfl)
theorem dX6_step_34 : decode cX6_step 34 = .ok (.aload_n 0, 1) := o_42 (bg_dX6_step_24 10 42 rfl)
theorem dX6_step_35 : decode cX6_step 35 = .ok (.getfield 28, 3) := o_180 (bg_dX6_step_24 11 180 rfl) (bg_dX6_step_24 12 0 rfl) (bg_dX6_step_24 13 28 rfl)
theorem dX6_step_38 : decode cX6_step 38 = .ok (.aload_n 1, 1) := o_43 (bg_dX6_step_24 14 43 rfl)
theorem dX6_step_39 : decode cX6_step 39 = .ok (.iconst 5, 1) := o_8 (bg_dX6_step_24 15 8 rfl)
theorem dX6_step_40 : decode cX6_step 40 = .ok (.iaload, 1) := o_46 (bg_dX6_step_24 16 46 rfl)
theorem dX6_step_41 : decode cX6_step 41 = .ok (.aload_n 1, 1) := o_43 (bg_dX6_step_24 17 43 rfl)
theorem dX6_step_42 : decode cX6_step 42 = .ok (.bipush 6, 2) := o_16 (bg_dX6_step_24 18 16 rfl) (bg_dX6_step_24 19 6 rfl) (by decide +kernel)
theorem dX6_step_44 : decode cX6_step 44 = .ok (.iaload, 1) := o_46 (bg_dX6_step_24 20 46 rfl)
theorem dX6_step_45 : decode cX6_step 45 = .ok (.aload_n 1, 1) := o_43 (bg_dX6_step_24 21 43 rfl)
theorem bg_dX6_step_46 : bysAt cX6_step 46 [3, 46, 43, 4, 46, 182, 1, 51, 61, 28, 2, 160, 0, 10, 42, 16, 251, 182, 0, 70, 172] := bysAt_of (by decide +kernel)
theorem dX6_step_46 : decode cX6_step 46 = .ok (.iconst 0, 1) := o_3 (bg_dX6_step_46 0 3 rfl)
theorem dX6_step_47 : decode cX6_step 47 = .ok (.iaload, 1) := o_46 (bg_dX6_step_46 1 46 rfl)
theorem dX6_step_48 : decode cX6_step 48 = .ok (.aload_n 1, 1) := o_43 (bg_dX6_step_46 2 43 rfl)
theorem dX6_step_49 : decode cX6_step 49 = .ok (.iconst 1, 1) := o_4 (bg_dX6_step_46 3 4 rfl)
theorem dX6_step_50 : decode cX6_step 50 = .ok (.iaload, 1) := o_46 (bg_dX6_step_46 4 46 rfl)
theorem dX6_step_51 : decode cX6_step 51 = .ok (.invokevirtual 307, 3) := o_182 (bg_dX6_step_46 5 182 rfl) (bg_dX6_step_46 6 1 rfl) (bg_dX6_step_46 7 51 rfl)
theorem dX6_step_54 : decode cX6_step 54 = .ok (.istore_n 2, 1) := o_61 (bg_dX6_step_46 8 61 rfl)
theorem dX6_step_55 : decode cX6_step 55 = .ok (.iload_n 2, 1) := o_28 (bg_dX6_step_46 9 28 rfl)
theorem dX6_step_56 : decode cX6_step 56 = .ok (.iconst (-1), 1) := o_2 (bg_dX6_step_46 10 2 rfl)
theorem dX6_step_57 : decode cX6_step 57 = .ok (.if_icmp .ne 10, 3) := o_160 (bg_dX6_step_46 11 160 rfl) (bg_dX6_step_46 12 0 rfl) (bg_dX6_step_46 13 10 rfl) (by decide +kernel)
theorem dX6_step_60 : decode cX6_step 60 = .ok (.aload_n 0, 1) := o_42 (bg_dX6_step_46 14 42 rfl)
theorem dX6_step_61 : decode cX6_step 61 = .ok (.bipush (-5), 2) := o_16 (bg_dX6_step_46 15 16 rfl) (bg_dX6_step_46 16 251 rfl) (by decide +kernel)
theorem dX6_step_63 : decode cX6_step 63 = .ok (.invokevirtual 70, 3) := o_182 (bg_dX6_step_46 17 182 rfl) (bg_dX6_step_46 18 0 rfl) (bg_dX6_step_46 19 70 rfl)
theorem dX6_step_66 : decode cX6_step 66 = .ok (.ireturn, 1) := o_172 (bg_dX6_step_46 20 172 rfl)
theorem bg_dX6_step_67 : bysAt cX6_step 67 [42, 28, 182, 1, 54, 28, 172] := bysAt_of (by decide +kernel)
theorem dX6_step_67 : decode cX6_step 67 = .ok (.aload_n 0, 1) := o_42 (bg_dX6_step_67 0 42 rfl)
theorem dX6_step_68 : decode cX6_step 68 = .ok (.iload_n 2, 1) := o_28 (bg_dX6_step_67 1 28 rfl)
theorem dX6_step_69 : decode cX6_step 69 = .ok (.invokevirtual 310, 3) := o_182 (bg_dX6_step_67 2 182 rfl) (bg_dX6_step_67 3 1 rfl) (bg_dX6_step_67 4 54 rfl)
theorem dX6_step_72 : decode cX6_step 72 = .ok (.iload_n 2, 1) := o_28 (bg_dX6_step_67 5 28 rfl)
theorem dX6_step_73 : decode cX6_step 73 = .ok (.ireturn, 1) := o_172 (bg_dX6_step_67 6 172 rfl)
theorem bg_dX6_told_0 : bysAt cX6_told 0 [21, 6, 3, 6, 184, 0, 66, 153, 0, 17, 42, 27, 28, 29, 21, 4, 21, 5, 182, 1, 0, 167, 0, 5, 16, 254] := bysAt_of (by decide +kernel)
theorem dX6_told_0 : decode cX6_told 0 = .ok (.iload 6, 2) := o_21 (bg_dX6_told_0 0 21 rfl) (bg_dX6_told_0 1 6 rfl)
theorem dX6_told_2 : decode cX6_told 2 = .ok (.iconst 0, 1) := o_3 (bg_dX6_told_0 2 3 rfl)
theorem dX6_told_3 : decode cX6_told 3 = .ok (.iconst 3, 1) := o_6 (bg_dX6_told_0 3 6 rfl)
theorem dX6_told_4 : decode cX6_told 4 = .ok (.invokestatic 66, 3) := o_184 (bg_dX6_told_0 4 184 rfl) (bg_dX6_told_0 5 0 rfl) (bg_dX6_told_0 6 66 rfl)
theorem dX6_told_7 : decode cX6_told 7 = .ok (.ifCond .eq 17, 3) := o_153 (bg_dX6_told_0 7 153 rfl) (bg_dX6_told_0 8 0 rfl) (bg_dX6_told_0 9 17 rfl) (by decide +kernel)
theorem dX6_told_10 : decode cX6_told 10 = .ok (.aload_n 0, 1) := o_42 (bg_dX6_told_0 10 42 rfl)
theorem dX6_told_11 : decode cX6_told 11 = .ok (.iload_n 1, 1) := o_27 (bg_dX6_told_0 11 27 rfl)
theorem dX6_told_12 : decode cX6_told 12 = .ok (.iload_n 2, 1) := o_28 (bg_dX6_told_0 12 28 rfl)
theorem dX6_told_13 : decode cX6_told 13 = .ok (.iload_n 3, 1) := o_29 (bg_dX6_told_0 13 29 rfl)
theorem dX6_told_14 : decode cX6_told 14 = .ok (.iload 4, 2) := o_21 (bg_dX6_told_0 14 21 rfl) (bg_dX6_told_0 15 4 rfl)
theorem dX6_told_16 : decode cX6_told 16 = .ok (.iload 5, 2) := o_21 (bg_dX6_told_0 16 21 rfl) (bg_dX6_told_0 17 5 rfl)
theorem dX6_told_18 : decode cX6_told 18 = .ok (.invokevirtual 256, 3) := o_182 (bg_dX6_told_0 18 182 rfl) (bg_dX6_told_0 19 1 rfl) (bg_dX6_told_0 20 0 rfl)
theorem dX6_told_21 : decode cX6_told 21 = .ok (.goto 5, 3) := o_167 (bg_dX6_told_0 21 167 rfl) (bg_dX6_told_0 22 0 rfl) (bg_dX6_told_0 23 5 rfl) (by decide +kernel)
theorem dX6_told_24 : decode cX6_told 24 = .ok (.bipush (-2), 2) := o_16 (bg_dX6_told_0 24 16 rfl) (bg_dX6_told_0 25 254 rfl) (by decide +kernel)
theorem bg_dX6_told_26 : bysAt cX6_told 26 [54, 7, 21, 7, 153, 0, 10, 42, 21, 7, 182, 0, 70, 172, 42, 180, 0, 28, 27, 28, 182, 0, 223, 42, 29] := bysAt_of (by decide +kernel)
theorem dX6_told_26 : decode cX6_told 26 = .ok (.istore 7, 2) := o_54 (bg_dX6_told_26 0 54 rfl) (bg_dX6_told_26 1 7 rfl)
theorem dX6_told_28 : decode cX6_told 28 = .ok (.iload 7, 2) := o_21 (bg_dX6_told_26 2 21 rfl) (bg_dX6_told_26 3 7 rfl)
theorem dX6_told_30 : decode cX6_told 30 = .ok (.ifCond .eq 10, 3) := o_153 (bg_dX6_told_26 4 153 rfl) (bg_dX6_told_26 5 0 rfl) (bg_dX6_told_26 6 10 rfl) (by decide +kernel)
theorem dX6_told_33 : decode cX6_told 33 = .ok (.aload_n 0, 1) := o_42 (bg_dX6_told_26 7 42 rfl)
theorem dX6_told_34 : decode cX6_told 34 = .ok (.iload 7, 2) := o_21 (bg_dX6_told_26 8 21 rfl) (bg_dX6_told_26 9 7 rfl)
theorem dX6_told_36 : decode cX6_told 36 = .ok (.invokevirtual 70, 3) := o_182 (bg_dX6_told_26 10 182 rfl) (bg_dX6_told_26 11 0 rfl) (bg_dX6_told_26 12 70 rfl)
theorem dX6_told_39 : decode cX6_told 39 = .ok (.ireturn, 1) := o_172 (bg_dX6_told_26 13 172 rfl)
theorem dX6_told_40 : decode cX6_told 40 = .ok (.aload_n 0, 1) := o_42 (bg_dX6_told_26 14 42 rfl)
theorem dX6_told_41 : decode cX6_told 41 = .ok (.getfield 28, 3) := o_180 (bg_dX6_told_26 15 180 rfl) (bg_dX6_told_26 16 0 rfl) (bg_dX6_told_26 17 28 rfl)
theorem dX6_told_44 : decode cX6_told 44 = .ok (.iload_n 1, 1) := o_27 (bg_dX6_told_26 18 27 rfl)
theorem dX6_told_45 : decode cX6_told 45 = .ok (.iload_n 2, 1) := o_28 (bg_dX6_told_26 19 28 rfl)
theorem dX6_told_46 : decode cX6_told 46 = .ok (.invokevirtual 223, 3) := o_182 (bg_dX6_told_26 20 182 rfl) (bg_dX6_told_26 21 0 rfl) (bg_dX6_told_26 22 223 rfl)
theorem dX6_told_49 : decode cX6_told 49 = .ok (.aload_n 0, 1) := o_42 (bg_dX6_told_26 23 42 rfl)
theorem dX6_told_50 : decode cX6_told 50 = .ok (.iload_n 3, 1) := o_29 (bg_dX6_told_26 24 29 rfl)
theorem bg_dX6_told_51 : bysAt cX6_told 51 [21, 4, 21, 5, 182, 1, 3, 2, 159, 0, 10, 42, 16, 251, 182, 0, 70, 172, 21, 6, 5, 160, 0, 18, 42, 180, 0, 28] := bysAt_of (by decide +kernel)
theorem dX6_told_51 : decode cX6_told 51 = .ok (.iload 4, 2) := o_21 (bg_dX6_told_51 0 21 rfl) (bg_dX6_told_51 1 4 rfl)
theorem dX6_told_53 : decode cX6_told 53 = .ok (.iload 5, 2) := o_21 (bg_dX6_told_51 2 21 rfl) (bg_dX6_told_51 3 5 rfl)
theorem dX6_told_55 : decode cX6_told 55 = .ok (.invokevirtual 259, 3) := o_182 (bg_dX6_told_51 4 182 rfl) (bg_dX6_told_51 5 1 rfl) (bg_dX6_told_51 6 3 rfl)
theorem dX6_told_58 : decode cX6_told 58 = .ok (.iconst (-1), 1) := o_2 (bg_dX6_told_51 7 2 rfl)
theorem dX6_told_59 : decode cX6_told 59 = .ok (.if_icmp .eq 10, 3) := o_159 (bg_dX6_told_51 8 159 rfl) (bg_dX6_told_51 9 0 rfl) (bg_dX6_told_51 10 10 rfl) (by decide +kernel)
theorem dX6_told_62 : decode cX6_told 62 = .ok (.aload_n 0, 1) := o_42 (bg_dX6_told_51 11 42 rfl)
theorem dX6_told_63 : decode cX6_told 63 = .ok (.bipush (-5), 2) := o_16 (bg_dX6_told_51 12 16 rfl) (bg_dX6_told_51 13 251 rfl) (by decide +kernel)
theorem dX6_told_65 : decode cX6_told 65 = .ok (.invokevirtual 70, 3) := o_182 (bg_dX6_told_51 14 182 rfl) (bg_dX6_told_51 15 0 rfl) (bg_dX6_told_51 16 70 rfl)
theorem dX6_told_68 : decode cX6_told 68 = .ok (.ireturn, 1) := o_172 (bg_dX6_told_51 17 172 rfl)
theorem dX6_told_69 : decode cX6_told 69 = .ok (.iload 6, 2) := o_21 (bg_dX6_told_51 18 21 rfl) (bg_dX6_told_51 19 6 rfl)
theorem dX6_told_71 : decode cX6_told 71 = .ok (.iconst 2, 1) := o_5 (bg_dX6_told_51 20 5 rfl)
theorem dX6_told_72 : decode cX6_told 72 = .ok (.if_icmp .ne 18, 3) := o_160 (bg_dX6_told_51 21 160 rfl) (bg_dX6_told_51 22 0 rfl) (bg_dX6_told_51 23 18 rfl) (by decide +kernel)
theorem dX6_told_75 : decode cX6_told 75 = .ok (.aload_n 0, 1) := o_42 (bg_dX6_told_51 24 42 rfl)
theorem dX6_told_76 : decode cX6_told 76 = .ok (.getfield 28, 3) := o_180 (bg_dX6_told_51 25 180 rfl) (bg_dX6_told_51 26 0 rfl) (bg_dX6_told_51 27 28 rfl)
theorem bg_dX6_told_79 : bysAt cX6_told 79 [180, 1, 6, 5, 46, 184, 1, 9, 167, 0, 13, 42, 180, 0, 28, 180, 1, 6, 21, 6, 46, 172] := bysAt_of (by decide +kernel)
theorem dX6_told_79 : decode cX6_told 79 = .ok (.getfield 262, 3) := o_180 (bg_dX6_told_79 0 180 rfl) (bg_dX6_told_79 1 1 rfl) (bg_dX6_told_79 2 6 rfl)
theorem dX6_told_82 : decode cX6_told 82 = .ok (.iconst 2, 1) := o_5 (bg_dX6_told_79 3 5 rfl)
theorem dX6_told_83 : decode cX6_told 83 = .ok (.iaload, 1) := o_46 (bg_dX6_told_79 4 46 rfl)
theorem dX6_told_84 : decode cX6_told 84 = .ok (.invokestatic 265, 3) := o_184 (bg_dX6_told_79 5 184 rfl) (bg_dX6_told_79 6 1 rfl) (bg_dX6_told_79 7 9 rfl)
theorem dX6_told_87 : decode cX6_told 87 = .ok (.goto 13, 3) := o_167 (bg_dX6_told_79 8 167 rfl) (bg_dX6_told_79 9 0 rfl) (bg_dX6_told_79 10 13 rfl) (by decide +kernel)
theorem dX6_told_90 : decode cX6_told 90 = .ok (.aload_n 0, 1) := o_42 (bg_dX6_told_79 11 42 rfl)
theorem dX6_told_91 : decode cX6_told 91 = .ok (.getfield 28, 3) := o_180 (bg_dX6_told_79 12 180 rfl) (bg_dX6_told_79 13 0 rfl) (bg_dX6_told_79 14 28 rfl)
theorem dX6_told_94 : decode cX6_told 94 = .ok (.getfield 262, 3) := o_180 (bg_dX6_told_79 15 180 rfl) (bg_dX6_told_79 16 1 rfl) (bg_dX6_told_79 17 6 rfl)
theorem dX6_told_97 : decode cX6_told 97 = .ok (.iload 6, 2) := o_21 (bg_dX6_told_79 18 21 rfl) (bg_dX6_told_79 19 6 rfl)
theorem dX6_told_99 : decode cX6_told 99 = .ok (.iaload, 1) := o_46 (bg_dX6_told_79 20 46 rfl)
theorem dX6_told_100 : decode cX6_told 100 = .ok (.ireturn, 1) := o_172 (bg_dX6_told_79 21 172 rfl)
theorem bg_dX6_under_0 : bysAt cX6_under 0 [27, 3, 7, 184, 0, 66, 154, 0, 10, 42, 16, 254, 182, 0, 70, 172, 42, 180, 0, 10, 180, 1, 48, 153, 0, 15, 42] := bysAt_of (by decide +kernel)
theorem dX6_under_0 : decode cX6_under 0 = .ok (.iload_n 1, 1) := o_27 (bg_dX6_under_0 0 27 rfl)
theorem dX6_under_1 : decode cX6_under 1 = .ok (.iconst 0, 1) := o_3 (bg_dX6_under_0 1 3 rfl)
theorem dX6_under_2 : decode cX6_under 2 = .ok (.iconst 4, 1) := o_7 (bg_dX6_under_0 2 7 rfl)
theorem dX6_under_3 : decode cX6_under 3 = .ok (.invokestatic 66, 3) := o_184 (bg_dX6_under_0 3 184 rfl) (bg_dX6_under_0 4 0 rfl) (bg_dX6_under_0 5 66 rfl)
theorem dX6_under_6 : decode cX6_under 6 = .ok (.ifCond .ne 10, 3) := o_154 (bg_dX6_under_0 6 154 rfl) (bg_dX6_under_0 7 0 rfl) (bg_dX6_under_0 8 10 rfl) (by decide +kernel)
theorem dX6_under_9 : decode cX6_under 9 = .ok (.aload_n 0, 1) := o_42 (bg_dX6_under_0 9 42 rfl)
theorem dX6_under_10 : decode cX6_under 10 = .ok (.bipush (-2), 2) := o_16 (bg_dX6_under_0 10 16 rfl) (bg_dX6_under_0 11 254 rfl) (by decide +kernel)
theorem dX6_under_12 : decode cX6_under 12 = .ok (.invokevirtual 70, 3) := o_182 (bg_dX6_under_0 12 182 rfl) (bg_dX6_under_0 13 0 rfl) (bg_dX6_under_0 14 70 rfl)
theorem dX6_under_15 : decode cX6_under 15 = .ok (.ireturn, 1) := o_172 (bg_dX6_under_0 15 172 rfl)
theorem dX6_under_16 : decode cX6_under 16 = .ok (.aload_n 0, 1) := o_42 (bg_dX6_under_0 16 42 rfl)
theorem dX6_under_17 : decode cX6_under 17 = .ok (.getfield 10, 3) := o_180 (bg_dX6_under_0 17 180 rfl) (bg_dX6_under_0 18 0 rfl) (bg_dX6_under_0 19 10 rfl)
theorem dX6_under_20 : decode cX6_under 20 = .ok (.getfield 304, 3) := o_180 (bg_dX6_under_0 20 180 rfl) (bg_dX6_under_0 21 1 rfl) (bg_dX6_under_0 22 48 rfl)
theorem dX6_under_23 : decode cX6_under 23 = .ok (.ifCond .eq 15, 3) := o_153 (bg_dX6_under_0 23 153 rfl) (bg_dX6_under_0 24 0 rfl) (bg_dX6_under_0 25 15 rfl) (by decide +kernel)
theorem dX6_under_26 : decode cX6_under 26 = .ok (.aload_n 0, 1) := o_42 (bg_dX6_under_0 26 42 rfl)
theorem bg_dX6_under_27 : bysAt cX6_under 27 [180, 0, 10, 180, 1, 45, 27, 46, 167, 0, 9, 42, 16, 251, 182, 0, 70, 172] := bysAt_of (by decide +kernel)
theorem dX6_under_27 : decode cX6_under 27 = .ok (.getfield 10, 3) := o_180 (bg_dX6_under_27 0 180 rfl) (bg_dX6_under_27 1 0 rfl) (bg_dX6_under_27 2 10 rfl)
theorem dX6_under_30 : decode cX6_under 30 = .ok (.getfield 301, 3) := o_180 (bg_dX6_under_27 3 180 rfl) (bg_dX6_under_27 4 1 rfl) (bg_dX6_under_27 5 45 rfl)
theorem dX6_under_33 : decode cX6_under 33 = .ok (.iload_n 1, 1) := o_27 (bg_dX6_under_27 6 27 rfl)
theorem dX6_under_34 : decode cX6_under 34 = .ok (.iaload, 1) := o_46 (bg_dX6_under_27 7 46 rfl)
theorem dX6_under_35 : decode cX6_under 35 = .ok (.goto 9, 3) := o_167 (bg_dX6_under_27 8 167 rfl) (bg_dX6_under_27 9 0 rfl) (bg_dX6_under_27 10 9 rfl) (by decide +kernel)
theorem dX6_under_38 : decode cX6_under 38 = .ok (.aload_n 0, 1) := o_42 (bg_dX6_under_27 11 42 rfl)
theorem dX6_under_39 : decode cX6_under 39 = .ok (.bipush (-5), 2) := o_16 (bg_dX6_under_27 12 16 rfl) (bg_dX6_under_27 13 251 rfl) (by decide +kernel)
theorem dX6_under_41 : decode cX6_under 41 = .ok (.invokevirtual 70, 3) := o_182 (bg_dX6_under_27 14 182 rfl) (bg_dX6_under_27 15 0 rfl) (bg_dX6_under_27 16 70 rfl)
theorem dX6_under_44 : decode cX6_under 44 = .ok (.ireturn, 1) := o_172 (bg_dX6_under_27 17 172 rfl)
theorem bg_dX6_valueOfWaiting_0 : bysAt cX6_valueOfWaiting 0 [30, 55, 7, 10, 55, 9, 3, 54, 11, 21, 11, 21, 4, 162, 0, 55, 21, 5, 133, 32, 105, 22, 9] := bysAt_of (by decide +kernel)
theorem dX6_valueOfWaiting_0 : decode cX6_valueOfWaiting 0 = .ok (.lload_n 0, 1) := o_30 (bg_dX6_valueOfWaiting_0 0 30 rfl)
theorem dX6_valueOfWaiting_1 : decode cX6_valueOfWaiting 1 = .ok (.lstore 7, 2) := o_55 (bg_dX6_valueOfWaiting_0 1 55 rfl) (bg_dX6_valueOfWaiting_0 2 7 rfl)
theorem dX6_valueOfWaiting_3 : decode cX6_valueOfWaiting 3 = .ok (.lconst 1, 1) := o_10 (bg_dX6_valueOfWaiting_0 3 10 rfl)
theorem dX6_valueOfWaiting_4 : decode cX6_valueOfWaiting 4 = .ok (.lstore 9, 2) := o_55 (bg_dX6_valueOfWaiting_0 4 55 rfl) (bg_dX6_valueOfWaiting_0 5 9 rfl)
theorem dX6_valueOfWaiting_6 : decode cX6_valueOfWaiting 6 = .ok (.iconst 0, 1) := o_3 (bg_dX6_valueOfWaiting_0 6 3 rfl)
theorem dX6_valueOfWaiting_7 : decode cX6_valueOfWaiting 7 = .ok (.istore 11, 2) := o_54 (bg_dX6_valueOfWaiting_0 7 54 rfl) (bg_dX6_valueOfWaiting_0 8 11 rfl)
theorem dX6_valueOfWaiting_9 : decode cX6_valueOfWaiting 9 = .ok (.iload 11, 2) := o_21 (bg_dX6_valueOfWaiting_0 9 21 rfl) (bg_dX6_valueOfWaiting_0 10 11 rfl)
theorem dX6_valueOfWaiting_11 : decode cX6_valueOfWaiting 11 = .ok (.iload 4, 2) := o_21 (bg_dX6_valueOfWaiting_0 11 21 rfl) (bg_dX6_valueOfWaiting_0 12 4 rfl)
theorem dX6_valueOfWaiting_13 : decode cX6_valueOfWaiting 13 = .ok (.if_icmp .ge 55, 3) := o_162 (bg_dX6_valueOfWaiting_0 13 162 rfl) (bg_dX6_valueOfWaiting_0 14 0 rfl) (bg_dX6_valueOfWaiting_0 15 55 rfl) (by decide +kernel)
theorem dX6_valueOfWaiting_16 : decode cX6_valueOfWaiting 16 = .ok (.iload 5, 2) := o_21 (bg_dX6_valueOfWaiting_0 16 21 rfl) (bg_dX6_valueOfWaiting_0 17 5 rfl)
theorem dX6_valueOfWaiting_18 : decode cX6_valueOfWaiting 18 = .ok (.i2l, 1) := o_133 (bg_dX6_valueOfWaiting_0 18 133 rfl)
theorem dX6_valueOfWaiting_19 : decode cX6_valueOfWaiting 19 = .ok (.lload_n 2, 1) := o_32 (bg_dX6_valueOfWaiting_0 19 32 rfl)
theorem dX6_valueOfWaiting_20 : decode cX6_valueOfWaiting 20 = .ok (.lmul, 1) := o_105 (bg_dX6_valueOfWaiting_0 20 105 rfl)
theorem dX6_valueOfWaiting_21 : decode cX6_valueOfWaiting 21 = .ok (.lload 9, 2) := o_22 (bg_dX6_valueOfWaiting_0 21 22 rfl) (bg_dX6_valueOfWaiting_0 22 9 rfl)
theorem bg_dX6_valueOfWaiting_23 : bysAt cX6_valueOfWaiting 23 [105, 16, 10, 21, 5, 100, 133, 22, 7, 105, 97, 55, 12, 22, 9, 20, 1, 80, 105, 55, 9, 30] := bysAt_of (by decide +kernel)
theorem dX6_valueOfWaiting_23 : decode cX6_valueOfWaiting 23 = .ok (.lmul, 1) := o_105 (bg_dX6_valueOfWaiting_23 0 105 rfl)
theorem dX6_valueOfWaiting_24 : decode cX6_valueOfWaiting 24 = .ok (.bipush 10, 2) := o_16 (bg_dX6_valueOfWaiting_23 1 16 rfl) (bg_dX6_valueOfWaiting_23 2 10 rfl) (by decide +kernel)
theorem dX6_valueOfWaiting_26 : decode cX6_valueOfWaiting 26 = .ok (.iload 5, 2) := o_21 (bg_dX6_valueOfWaiting_23 3 21 rfl) (bg_dX6_valueOfWaiting_23 4 5 rfl)
theorem dX6_valueOfWaiting_28 : decode cX6_valueOfWaiting 28 = .ok (.isub, 1) := o_100 (bg_dX6_valueOfWaiting_23 5 100 rfl)
theorem dX6_valueOfWaiting_29 : decode cX6_valueOfWaiting 29 = .ok (.i2l, 1) := o_133 (bg_dX6_valueOfWaiting_23 6 133 rfl)
theorem dX6_valueOfWaiting_30 : decode cX6_valueOfWaiting 30 = .ok (.lload 7, 2) := o_22 (bg_dX6_valueOfWaiting_23 7 22 rfl) (bg_dX6_valueOfWaiting_23 8 7 rfl)
theorem dX6_valueOfWaiting_32 : decode cX6_valueOfWaiting 32 = .ok (.lmul, 1) := o_105 (bg_dX6_valueOfWaiting_23 9 105 rfl)
theorem dX6_valueOfWaiting_33 : decode cX6_valueOfWaiting 33 = .ok (.ladd, 1) := o_97 (bg_dX6_valueOfWaiting_23 10 97 rfl)
theorem dX6_valueOfWaiting_34 : decode cX6_valueOfWaiting 34 = .ok (.lstore 12, 2) := o_55 (bg_dX6_valueOfWaiting_23 11 55 rfl) (bg_dX6_valueOfWaiting_23 12 12 rfl)
theorem dX6_valueOfWaiting_36 : decode cX6_valueOfWaiting 36 = .ok (.lload 9, 2) := o_22 (bg_dX6_valueOfWaiting_23 13 22 rfl) (bg_dX6_valueOfWaiting_23 14 9 rfl)
theorem dX6_valueOfWaiting_38 : decode cX6_valueOfWaiting 38 = .ok (.ldc2_w 336, 3) := o_20 (bg_dX6_valueOfWaiting_23 15 20 rfl) (bg_dX6_valueOfWaiting_23 16 1 rfl) (bg_dX6_valueOfWaiting_23 17 80 rfl)
theorem dX6_valueOfWaiting_41 : decode cX6_valueOfWaiting 41 = .ok (.lmul, 1) := o_105 (bg_dX6_valueOfWaiting_23 18 105 rfl)
theorem dX6_valueOfWaiting_42 : decode cX6_valueOfWaiting 42 = .ok (.lstore 9, 2) := o_55 (bg_dX6_valueOfWaiting_23 19 55 rfl) (bg_dX6_valueOfWaiting_23 20 9 rfl)
theorem dX6_valueOfWaiting_44 : decode cX6_valueOfWaiting 44 = .ok (.lload_n 0, 1) := o_30 (bg_dX6_valueOfWaiting_23 21 30 rfl)
theorem bg_dX6_valueOfWaiting_45 : bysAt cX6_valueOfWaiting 45 [22, 9, 105, 21, 6, 133, 22, 9, 105, 22, 12, 97, 184, 1, 82, 55, 7, 132, 11, 1, 167, 255, 200, 22, 7, 173] := bysAt_of (by decide +kernel)
theorem dX6_valueOfWaiting_45 : decode cX6_valueOfWaiting 45 = .ok (.lload 9, 2) := o_22 (bg_dX6_valueOfWaiting_45 0 22 rfl) (bg_dX6_valueOfWaiting_45 1 9 rfl)
theorem dX6_valueOfWaiting_47 : decode cX6_valueOfWaiting 47 = .ok (.lmul, 1) := o_105 (bg_dX6_valueOfWaiting_45 2 105 rfl)
theorem dX6_valueOfWaiting_48 : decode cX6_valueOfWaiting 48 = .ok (.iload 6, 2) := o_21 (bg_dX6_valueOfWaiting_45 3 21 rfl) (bg_dX6_valueOfWaiting_45 4 6 rfl)
theorem dX6_valueOfWaiting_50 : decode cX6_valueOfWaiting 50 = .ok (.i2l, 1) := o_133 (bg_dX6_valueOfWaiting_45 5 133 rfl)
theorem dX6_valueOfWaiting_51 : decode cX6_valueOfWaiting 51 = .ok (.lload 9, 2) := o_22 (bg_dX6_valueOfWaiting_45 6 22 rfl) (bg_dX6_valueOfWaiting_45 7 9 rfl)
theorem dX6_valueOfWaiting_53 : decode cX6_valueOfWaiting 53 = .ok (.lmul, 1) := o_105 (bg_dX6_valueOfWaiting_45 8 105 rfl)
theorem dX6_valueOfWaiting_54 : decode cX6_valueOfWaiting 54 = .ok (.lload 12, 2) := o_22 (bg_dX6_valueOfWaiting_45 9 22 rfl) (bg_dX6_valueOfWaiting_45 10 12 rfl)
theorem dX6_valueOfWaiting_56 : decode cX6_valueOfWaiting 56 = .ok (.ladd, 1) := o_97 (bg_dX6_valueOfWaiting_45 11 97 rfl)
theorem dX6_valueOfWaiting_57 : decode cX6_valueOfWaiting 57 = .ok (.invokestatic 338, 3) := o_184 (bg_dX6_valueOfWaiting_45 12 184 rfl) (bg_dX6_valueOfWaiting_45 13 1 rfl) (bg_dX6_valueOfWaiting_45 14 82 rfl)
theorem dX6_valueOfWaiting_60 : decode cX6_valueOfWaiting 60 = .ok (.lstore 7, 2) := o_55 (bg_dX6_valueOfWaiting_45 15 55 rfl) (bg_dX6_valueOfWaiting_45 16 7 rfl)
theorem dX6_valueOfWaiting_65 : decode cX6_valueOfWaiting 65 = .ok (.goto (-56), 3) := o_167 (bg_dX6_valueOfWaiting_45 20 167 rfl) (bg_dX6_valueOfWaiting_45 21 255 rfl) (bg_dX6_valueOfWaiting_45 22 200 rfl) (by decide +kernel)
theorem dX6_valueOfWaiting_68 : decode cX6_valueOfWaiting 68 = .ok (.lload 7, 2) := o_22 (bg_dX6_valueOfWaiting_45 23 22 rfl) (bg_dX6_valueOfWaiting_45 24 7 rfl)
theorem dX6_valueOfWaiting_70 : decode cX6_valueOfWaiting 70 = .ok (.lreturn, 1) := o_173 (bg_dX6_valueOfWaiting_45 25 173 rfl)
theorem pdJ6_bitCount_0f7a4 : yJ6_bitCount_0f7a4.cls ≠ "java/lang/invoke/MethodHandle" ∧ yJ6_bitCount_0f7a4.cls ≠ "java/lang/invoke/VarHandle" ∧ (parseMethodDescriptor yJ6_bitCount_0f7a4.desc).map (fun d => d.parameters.length) = some 1 := by decide +kernel
theorem pdVX0_become : yX0_become.cls = RX0 ∧ yX0_become.cls ≠ "java/lang/invoke/MethodHandle" ∧ yX0_become.cls ≠ "java/lang/invoke/VarHandle" ∧ (parseMethodDescriptor yX0_become.desc).map (fun d => d.parameters.length) = some 1 := by decide +kernel
theorem pdVX0_countBridges : yX0_countBridges.cls = RX0 ∧ yX0_countBridges.cls ≠ "java/lang/invoke/MethodHandle" ∧ yX0_countBridges.cls ≠ "java/lang/invoke/VarHandle" ∧ (parseMethodDescriptor yX0_countBridges.desc).map (fun d => d.parameters.length) = some 1 := by decide +kernel
theorem pdVX0_startTrip : yX0_startTrip.cls = RX0 ∧ yX0_startTrip.cls ≠ "java/lang/invoke/MethodHandle" ∧ yX0_startTrip.cls ≠ "java/lang/invoke/VarHandle" ∧ (parseMethodDescriptor yX0_startTrip.desc).map (fun d => d.parameters.length) = some 5 := by decide +kernel
theorem pdVX3_countHeld : yX3_countHeld.cls = RX3 ∧ yX3_countHeld.cls ≠ "java/lang/invoke/MethodHandle" ∧ yX3_countHeld.cls ≠ "java/lang/invoke/VarHandle" ∧ (parseMethodDescriptor yX3_countHeld.desc).map (fun d => d.parameters.length) = some 0 := by decide +kernel
theorem pdVX3_dropBridgesFrom : yX3_dropBridgesFrom.cls = RX3 ∧ yX3_dropBridgesFrom.cls ≠ "java/lang/invoke/MethodHandle" ∧ yX3_dropBridgesFrom.cls ≠ "java/lang/invoke/VarHandle" ∧ (parseMethodDescriptor yX3_dropBridgesFrom.desc).map (fun d => d.parameters.length) = some 1 := by decide +kernel
theorem pdVX5_firstRoad : yX5_firstRoad.cls = RX5 ∧ yX5_firstRoad.cls ≠ "java/lang/invoke/MethodHandle" ∧ yX5_firstRoad.cls ≠ "java/lang/invoke/VarHandle" ∧ (parseMethodDescriptor yX5_firstRoad.desc).map (fun d => d.parameters.length) = some 4 := by decide +kernel
theorem pdVX5_hasWay : yX5_hasWay.cls = RX5 ∧ yX5_hasWay.cls ≠ "java/lang/invoke/MethodHandle" ∧ yX5_hasWay.cls ≠ "java/lang/invoke/VarHandle" ∧ (parseMethodDescriptor yX5_hasWay.desc).map (fun d => d.parameters.length) = some 4 := by decide +kernel
theorem pdVX5_leastDays : yX5_leastDays.cls = RX5 ∧ yX5_leastDays.cls ≠ "java/lang/invoke/MethodHandle" ∧ yX5_leastDays.cls ≠ "java/lang/invoke/VarHandle" ∧ (parseMethodDescriptor yX5_leastDays.desc).map (fun d => d.parameters.length) = some 4 := by decide +kernel
theorem pdVX5_reached : yX5_reached.cls = RX5 ∧ yX5_reached.cls ≠ "java/lang/invoke/MethodHandle" ∧ yX5_reached.cls ≠ "java/lang/invoke/VarHandle" ∧ (parseMethodDescriptor yX5_reached.desc).map (fun d => d.parameters.length) = some 3 := by decide +kernel
theorem pdVX5_standProps : yX5_standProps.cls = RX5 ∧ yX5_standProps.cls ≠ "java/lang/invoke/MethodHandle" ∧ yX5_standProps.cls ≠ "java/lang/invoke/VarHandle" ∧ (parseMethodDescriptor yX5_standProps.desc).map (fun d => d.parameters.length) = some 1 := by decide +kernel
theorem pdVX6_coinIfFallen : yX6_coinIfFallen.cls = RX6 ∧ yX6_coinIfFallen.cls ≠ "java/lang/invoke/MethodHandle" ∧ yX6_coinIfFallen.cls ≠ "java/lang/invoke/VarHandle" ∧ (parseMethodDescriptor yX6_coinIfFallen.desc).map (fun d => d.parameters.length) = some 5 := by decide +kernel
theorem pdVX6_findBest : yX6_findBest.cls = RX6 ∧ yX6_findBest.cls ≠ "java/lang/invoke/MethodHandle" ∧ yX6_findBest.cls ≠ "java/lang/invoke/VarHandle" ∧ (parseMethodDescriptor yX6_findBest.desc).map (fun d => d.parameters.length) = some 2 := by decide +kernel
theorem pdVX6_firstWrong : yX6_firstWrong.cls = RX6 ∧ yX6_firstWrong.cls ≠ "java/lang/invoke/MethodHandle" ∧ yX6_firstWrong.cls ≠ "java/lang/invoke/VarHandle" ∧ (parseMethodDescriptor yX6_firstWrong.desc).map (fun d => d.parameters.length) = some 3 := by decide +kernel
theorem pdVX6_goAlong : yX6_goAlong.cls = RX6 ∧ yX6_goAlong.cls ≠ "java/lang/invoke/MethodHandle" ∧ yX6_goAlong.cls ≠ "java/lang/invoke/VarHandle" ∧ (parseMethodDescriptor yX6_goAlong.desc).map (fun d => d.parameters.length) = some 1 := by decide +kernel
theorem pdVX6_heaviest : yX6_heaviest.cls = RX6 ∧ yX6_heaviest.cls ≠ "java/lang/invoke/MethodHandle" ∧ yX6_heaviest.cls ≠ "java/lang/invoke/VarHandle" ∧ (parseMethodDescriptor yX6_heaviest.desc).map (fun d => d.parameters.length) = some 3 := by decide +kernel
theorem pdVX6_isJourney : yX6_isJourney.cls = RX6 ∧ yX6_isJourney.cls ≠ "java/lang/invoke/MethodHandle" ∧ yX6_isJourney.cls ≠ "java/lang/invoke/VarHandle" ∧ (parseMethodDescriptor yX6_isJourney.desc).map (fun d => d.parameters.length) = some 4 := by decide +kernel
theorem pdVX6_orStuck : yX6_orStuck.cls = RX6 ∧ yX6_orStuck.cls ≠ "java/lang/invoke/MethodHandle" ∧ yX6_orStuck.cls ≠ "java/lang/invoke/VarHandle" ∧ (parseMethodDescriptor yX6_orStuck.desc).map (fun d => d.parameters.length) = some 1 := by decide +kernel
theorem pdX6_valueOfWaiting : yX6_valueOfWaiting.cls ≠ "java/lang/invoke/MethodHandle" ∧ yX6_valueOfWaiting.cls ≠ "java/lang/invoke/VarHandle" ∧ (parseMethodDescriptor yX6_valueOfWaiting.desc).map (fun d => d.parameters.length) = some 5 := by decide +kernel
theorem pdVX6_whyNotTold : yX6_whyNotTold.cls = RX6 ∧ yX6_whyNotTold.cls ≠ "java/lang/invoke/MethodHandle" ∧ yX6_whyNotTold.cls ≠ "java/lang/invoke/VarHandle" ∧ (parseMethodDescriptor yX6_whyNotTold.desc).map (fun d => d.parameters.length) = some 5 := by decide +kernel
theorem dX6_fewest_92 : decode cX6_fewest 92 = .ok (.iinc 6 1, 3) := by decide +kernel
theorem dX6_hang_107 : decode cX6_hang 107 = .ok (.iinc 7 1, 3) := by decide +kernel
theorem dX6_status_41 : decode cX6_status 41 = .ok (.tableswitch 67 4 7 #[31, 39, 47, 57], 31) := by decide +kernel
theorem dX6_valueOfWaiting_62 : decode cX6_valueOfWaiting 62 = .ok (.iinc 11 1, 3) := by decide +kernel
set_option maxHeartbeats 4000000 in
set_option maxRecDepth 100000 in
theorem c_X6_best (l : Launch) (D : va_G) (E : Nat → ClassId) (G : Nat → Nat) (sz : Nat) (a : Nat → Nat) (C : Nat → va_E) (hT : TyX a E C) (x1 : Int32) (x2 : Int32) (x3 : Int32) : Met l yX6_best (oh_w yX6_best cX6_best 4 (some .int)) ({ frames := 6, cells := 0, slots := 0, locals := 150 }) (oh_Pm D E G [.ref (a 0), .int x1, .int x2, .int x3] (oh_W 35 a C) sz) (va_Qi (fun r (u : Nat → va_E) => TyX a E u ∧ fr [(7, 10), (24, 28)] [] C u ∧ True) (oh_B D (va_A (oh_W 35 a C) sz) (fun u => oh_W 35 a u)) (va_A (oh_W 35 a C) sz)) 0 0 (va_A (oh_W 35 a C) sz) := by
  refine Met.ofW (cc := cX6_best) (maxL := 4) (ret := (some .int)) (by decide) rfl ?_
  intro p e s m args below meth c s₁ B hml hv
  obtain ⟨rfl, hsz, hP, hK, hD0, hG⟩ := hv
  have hx := B.exec
  have hb := B.bytes
  have hr := B.returns
  have hts := atoms_spec (ws := (oh_w yX6_best cX6_best 4 (some .int))) B.pre
  have htg : ∀ w ∈ oh_t, w.before _ s = true := fun w h => hts w (List.mem_cons_of_mem _ h)
  have hown : s.vm.findClass RX6 = some m.cls := findClass_of_methodNamed B.named
  have hlocks := B.notSynchronized
  have hT0 := hT
  subst hsz
  have hD := hD0.self (sz := s.heap.size)
  generalize hAe : va_A (oh_W 35 a C) s.heap.size = A at hD hG ⊢
  have hA : ∀ q : Nat, s.heap.size ≤ q → A q := fun q h => by rw [← hAe]; exact Or.inr h
  have hS : va_S A s.heap s.heap [] := va_S.rf
  have hF : fr [(7, 10), (24, 28)] [] C C := fr_rf
  have hl := lv_entry ([.ref (a 0), .int x1, .int x2, .int x3]) (n := 4) (Nat.le_of_ble_eq_true rfl)
  rw [lg_entry_eq]
  generalize (lg_sl ([.ref (a 0), .int x1, .int x2, .int x3]) ++ List.replicate (4 - (lg_sl ([.ref (a 0), .int x1, .int x2, .int x3])).length) Slot.unset).toArray = ls at hl ⊢
  have hl : lv_has ls 4 [(0, .ref (a 0)), (1, .int x1), (2, .int x2), (3, .int x3)] := hl
  refine oh_genQ (fun Q hQ => ?_)
  refine lv_iload_n hx hb dX6_best_0 rfl (lv_at hl 1 rfl) ?_
  refine tq_S (As := [.int x1]) (rest := []) (ws := []) ⟨hx, hb, hml, hown, htg⟩ (c_X6_isPlace l D E G x1) (va_cwS 1 htg (oh_gS q_413 q_414 q_66 q_415) rfl rfl rfl pdX6_isPlace ⟨Nat.le_of_ble_eq_true rfl, Nat.le_of_ble_eq_true rfl⟩) hK va_nil hG hS rfl hl.1 rfl (Nat.le_of_ble_eq_true rfl) dX6_best_1 ⟨Nat.le_of_ble_eq_true rfl, Nat.le_of_ble_eq_true rfl⟩ (fun r_1 hq_2 => ?_)
  refine lv_if_eq (tgt := 23) hx hb dX6_best_4 (by decide) (fun (c_3 : r_1 = 0) => ?_) (fun (c_3 : ¬ (r_1 = 0)) => ?_)
  · refine lv_aload_n hx hb dX6_best_23 rfl (lv_at hl 0 rfl) ?_
    refine lv_bipush (v := (-2)) hx hb dX6_best_24 (by decide) ?_
    refine tm_V (As := [.int (-2)]) (rest := []) ⟨hx, hb, hml, hown, htg⟩ (c_X6_refuse l D E G _ a C hT ((-2) : Int32)) (cwV 1 htg (oh_gV q_296 q_298 q_0 q_66 q_299) rfl rfl rfl pdVX6_refuse ⟨Nat.le_of_ble_eq_true rfl, Nat.le_of_ble_eq_true rfl⟩) hK hP hD hG hS hA (va_recv hK hP (ci := 6) (q0 := 0) rfl (oh_wg (by decide) (sX_0 hT))) rfl hl.1 rfl (Nat.le_of_ble_eq_true rfl) dX6_best_26 ⟨Nat.le_of_ble_eq_true rfl, Nat.le_of_ble_eq_true rfl⟩ (fun r_4 C_5 H locs hq_6 hP hD hS => ?_)
    obtain ⟨hT, f_7, hq_6⟩ := hq_6
    have hF := fr_tr hF f_7 (by decide) (by decide)
    refine W.widen (k := 0) (n := 0) (Nat.le_refl _) (Nat.le_refl _) ?_
    have t_8 := hT
    rw [hQ]
    exact W.iret (v := r_4) hx hb hr (fun t ht hW => ⟨⟨r_4, C_5, rfl, ⟨hT, hF, trivial⟩, ⟨by rw [ht]; exact hP, hD⟩⟩, hS.F ht⟩) hS.2.2 dX6_best_29
  · have u_9 := hq_2.2 c_3
    refine lv_iload_n hx hb dX6_best_7 rfl (lv_at hl 2 rfl) ?_
    refine tq_S (As := [.int x2]) (rest := []) (ws := []) ⟨hx, hb, hml, hown, htg⟩ (c_X6_isPlace l D E G x2) (va_cwS 1 htg (oh_gS q_413 q_414 q_66 q_415) rfl rfl rfl pdX6_isPlace ⟨Nat.le_of_ble_eq_true rfl, Nat.le_of_ble_eq_true rfl⟩) hK va_nil hG hS rfl hl.1 rfl (Nat.le_of_ble_eq_true rfl) dX6_best_8 ⟨Nat.le_of_ble_eq_true rfl, Nat.le_of_ble_eq_true rfl⟩ (fun r_10 hq_11 => ?_)
    refine lv_if_eq (tgt := 23) hx hb dX6_best_11 (by decide) (fun (c_12 : r_10 = 0) => ?_) (fun (c_12 : ¬ (r_10 = 0)) => ?_)
    · refine lv_aload_n hx hb dX6_best_23 rfl (lv_at hl 0 rfl) ?_
      refine lv_bipush (v := (-2)) hx hb dX6_best_24 (by decide) ?_
      refine tm_V (As := [.int (-2)]) (rest := []) ⟨hx, hb, hml, hown, htg⟩ (c_X6_refuse l D E G _ a C hT ((-2) : Int32)) (cwV 1 htg (oh_gV q_296 q_298 q_0 q_66 q_299) rfl rfl rfl pdVX6_refuse ⟨Nat.le_of_ble_eq_true rfl, Nat.le_of_ble_eq_true rfl⟩) hK hP hD hG hS hA (va_recv hK hP (ci := 6) (q0 := 0) rfl (oh_wg (by decide) (sX_0 hT))) rfl hl.1 rfl (Nat.le_of_ble_eq_true rfl) dX6_best_26 ⟨Nat.le_of_ble_eq_true rfl, Nat.le_of_ble_eq_true rfl⟩ (fun r_13 C_14 H locs hq_15 hP hD hS => ?_)
      obtain ⟨hT, f_16, hq_15⟩ := hq_15
      have hF := fr_tr hF f_16 (by decide) (by decide)
      refine W.widen (k := 0) (n := 0) (Nat.le_refl _) (Nat.le_refl _) ?_
      have t_17 := hT
      rw [hQ]
      exact W.iret (v := r_13) hx hb hr (fun t ht hW => ⟨⟨r_13, C_14, rfl, ⟨hT, hF, trivial⟩, ⟨by rw [ht]; exact hP, hD⟩⟩, hS.F ht⟩) hS.2.2 dX6_best_29
    · have u_18 := hq_11.2 c_12
      refine lv_iload_n hx hb dX6_best_14 rfl (lv_at hl 3 rfl) ?_
      refine lv_iconst (v := 0) hx hb dX6_best_15 (by decide) ?_
      refine lv_iconst (v := 2) hx hb dX6_best_16 (by decide) ?_
      refine tq_S (As := [.int x3, .int 0, .int 2]) (rest := []) (ws := []) ⟨hx, hb, hml, hown, htg⟩ (c_X6_within l D E G x3 (0 : Int32) (2 : Int32)) (va_cwS 3 htg (oh_gS q_293 q_294 q_66 q_295) rfl rfl rfl pdX6_within ⟨Nat.le_of_ble_eq_true rfl, Nat.le_of_ble_eq_true rfl⟩) hK va_nil hG hS rfl hl.1 rfl (Nat.le_of_ble_eq_true rfl) dX6_best_17 ⟨Nat.le_of_ble_eq_true rfl, Nat.le_of_ble_eq_true rfl⟩ (fun r_19 hq_20 => ?_)
      refine lv_if_ne (tgt := 30) hx hb dX6_best_20 (by decide) (fun (c_21 : ¬ (r_19 = 0)) => ?_) (fun (c_21 : r_19 = 0) => ?_)
      · have u_22 := hq_20.2.1 c_21
        refine lv_aload_n hx hb dX6_best_30 rfl (lv_at hl 0 rfl) ?_
        refine lv_iload_n hx hb dX6_best_31 rfl (lv_at hl 1 rfl) ?_
        refine lv_iload_n hx hb dX6_best_32 rfl (lv_at hl 2 rfl) ?_
        refine tm_Vv (As := [.int x1, .int x2]) (rest := []) ⟨hx, hb, hml, hown, htg⟩ (c_X6_findBest l D E G _ a C hT x1 x2 (rg_w u_9 (by decide)) (rg_w u_18 (by decide))) (cwV 2 htg (oh_gV q_821 q_823 q_22 q_66 q_824) rfl rfl rfl pdVX6_findBest ⟨Nat.le_of_ble_eq_true rfl, Nat.le_of_ble_eq_true rfl⟩) hK hP hD hG hS hA (va_recv hK hP (ci := 6) (q0 := 0) rfl (oh_wg (by decide) (sX_0 hT))) rfl hl.1 rfl (Nat.le_of_ble_eq_true rfl) dX6_best_33 ⟨Nat.le_of_ble_eq_true rfl, Nat.le_of_ble_eq_true rfl⟩ (fun C_24 H locs hq_25 hP hD hS => ?_)
        obtain ⟨hT, f_26, hq_25⟩ := hq_25
        have hF := fr_tr hF f_26 (by decide) (by decide)
        refine W.widen (k := 0) (n := 0) (Nat.le_refl _) (Nat.le_refl _) ?_
        have t_27 := hT
        refine lv_aload_n hx hb dX6_best_36 rfl (lv_at hl 0 rfl) ?_
        refine va_get (D := D) (ci := 6) (v := .ref (a 8)) (C := RX6) (T := TX6) (N := 9) hx hb htg ig_6 hown hK hP 0 (oh_wg (by decide) (sX_0 hT)) rfl 8 (by decide) (htg _ q_266) (fun _ h9 => h9) rfl dX6_best_37 ?_
        refine lv_iconst (v := 2) hx hb dX6_best_40 (by decide) ?_
        refine th_iald hx hb hK hP 8 (by decide) (sX_8 hT) (rg_in (rg_c (v := 2) (lo := 2) (hi := 2) (by decide)) (by decide)) dX6_best_41 ?_
        refine lv_ldc (v := 1000000000) hx hb hown (htg _ q_803) dX6_best_42 ?_
        refine lv_icmp_ne (tgt := 56) hx hb dX6_best_44 (by decide) (fun (c_28 : ¬ ((ga (C_24 8) ((2 : Int32)).toNatClampNeg) = 1000000000)) => ?_) (fun (c_28 : (ga (C_24 8) ((2 : Int32)).toNatClampNeg) = 1000000000) => ?_)
        · refine lv_aload_n hx hb dX6_best_56 rfl (lv_at hl 0 rfl) ?_
          refine va_get (D := D) (ci := 6) (v := .ref (a 8)) (C := RX6) (T := TX6) (N := 9) hx hb htg ig_6 hown hK hP 0 (oh_wg (by decide) (sX_0 hT)) rfl 8 (by decide) (htg _ q_266) (fun _ h9 => h9) rfl dX6_best_57 ?_
          refine lv_iload_n hx hb dX6_best_60 rfl (lv_at hl 3 rfl) ?_
          have n_29 : vp_in x3 3 := (rg_in (rn_leu u_22.2 (rn_lel u_22.1 (rg_c (v := 0) (lo := 0) (hi := 0) (by decide)) (rg_any _)) (rg_c (v := 2) (lo := 2) (hi := 2) (by decide))) (by decide))
          refine th_iald hx hb hK hP 8 (by decide) (sX_8 hT) n_29 dX6_best_61 ?_
          rw [hQ]
          exact W.iret (v := ga (C_24 8) (x3).toNatClampNeg) hx hb hr (fun t ht hW => ⟨⟨ga (C_24 8) (x3).toNatClampNeg, C_24, rfl, ⟨hT, hF, trivial⟩, ⟨by rw [ht]; exact hP, hD⟩⟩, hS.F ht⟩) hS.2.2 dX6_best_62
        · refine lv_aload_n hx hb dX6_best_47 rfl (lv_at hl 0 rfl) ?_
          refine lv_bipush (v := (-5)) hx hb dX6_best_48 (by decide) ?_
          refine tm_V (As := [.int (-5)]) (rest := []) ⟨hx, hb, hml, hown, htg⟩ (c_X6_refuse l D E G _ a C_24 hT ((-5) : Int32)) (cwV 1 htg (oh_gV q_296 q_298 q_0 q_66 q_299) rfl rfl rfl pdVX6_refuse ⟨Nat.le_of_ble_eq_true rfl, Nat.le_of_ble_eq_true rfl⟩) hK hP hD hG hS hA (va_recv hK hP (ci := 6) (q0 := 0) rfl (oh_wg (by decide) (sX_0 hT))) rfl hl.1 rfl (Nat.le_of_ble_eq_true rfl) dX6_best_50 ⟨Nat.le_of_ble_eq_true rfl, Nat.le_of_ble_eq_true rfl⟩ (fun r_30 C_31 H locs hq_32 hP hD hS => ?_)
          obtain ⟨hT, f_33, hq_32⟩ := hq_32
          have hF := fr_tr hF f_33 (by decide) (by decide)
          refine W.widen (k := 0) (n := 0) (Nat.le_refl _) (Nat.le_refl _) ?_
          have t_34 := hT
          refine lv_goto (tgt := 62) hx hb dX6_best_53 (by decide) ?_
          rw [hQ]
          exact W.iret (v := r_30) hx hb hr (fun t ht hW => ⟨⟨r_30, C_31, rfl, ⟨hT, hF, trivial⟩, ⟨by rw [ht]; exact hP, hD⟩⟩, hS.F ht⟩) hS.2.2 dX6_best_62
      · have u_35 := hq_20.2.2 c_21
        refine lv_aload_n hx hb dX6_best_23 rfl (lv_at hl 0 rfl) ?_
        refine lv_bipush (v := (-2)) hx hb dX6_best_24 (by decide) ?_
        refine tm_V (As := [.int (-2)]) (rest := []) ⟨hx, hb, hml, hown, htg⟩ (c_X6_refuse l D E G _ a C hT ((-2) : Int32)) (cwV 1 htg (oh_gV q_296 q_298 q_0 q_66 q_299) rfl rfl rfl pdVX6_refuse ⟨Nat.le_of_ble_eq_true rfl, Nat.le_of_ble_eq_true rfl⟩) hK hP hD hG hS hA (va_recv hK hP (ci := 6) (q0 := 0) rfl (oh_wg (by decide) (sX_0 hT))) rfl hl.1 rfl (Nat.le_of_ble_eq_true rfl) dX6_best_26 ⟨Nat.le_of_ble_eq_true rfl, Nat.le_of_ble_eq_true rfl⟩ (fun r_36 C_37 H locs hq_38 hP hD hS => ?_)
        obtain ⟨hT, f_39, hq_38⟩ := hq_38
        have hF := fr_tr hF f_39 (by decide) (by decide)
        refine W.widen (k := 0) (n := 0) (Nat.le_refl _) (Nat.le_refl _) ?_
        have t_40 := hT
        rw [hQ]
        exact W.iret (v := r_36) hx hb hr (fun t ht hW => ⟨⟨r_36, C_37, rfl, ⟨hT, hF, trivial⟩, ⟨by rw [ht]; exact hP, hD⟩⟩, hS.F ht⟩) hS.2.2 dX6_best_29

set_option maxHeartbeats 4000000 in
set_option maxRecDepth 100000 in
theorem c_X6_judge (l : Launch) (D : va_G) (E : Nat → ClassId) (G : Nat → Nat) (sz : Nat) (a : Nat → Nat) (C : Nat → va_E) (hT : TyX a E C) (x1 : Int32) (x2 : Int32) (x3 : Int32) (x4 : Int32) (x5 : Int32) : Met l yX6_judge (oh_w yX6_judge cX6_judge 7 (some .int)) ({ frames := 5, cells := 0, slots := 0, locals := 113 }) (oh_Pm D E G [.ref (a 0), .int x1, .int x2, .int x3, .int x4, .int x5] (oh_W 35 a C) sz) (va_Qi (fun r (u : Nat → va_E) => TyX a E u ∧ fr [(7, 8), (9, 10), (24, 26), (28, 29)] [] C u ∧ True) (oh_B D (va_A (oh_W 35 a C) sz) (fun u => oh_W 35 a u)) (va_A (oh_W 35 a C) sz)) 0 0 (va_A (oh_W 35 a C) sz) := by
  refine Met.ofW (cc := cX6_judge) (maxL := 7) (ret := (some .int)) (by decide) rfl ?_
  intro p e s m args below meth c s₁ B hml hv
  obtain ⟨rfl, hsz, hP, hK, hD0, hG⟩ := hv
  have hx := B.exec
  have hb := B.bytes
  have hr := B.returns
  have hts := atoms_spec (ws := (oh_w yX6_judge cX6_judge 7 (some .int))) B.pre
  have htg : ∀ w ∈ oh_t, w.before _ s = true := fun w h => hts w (List.mem_cons_of_mem _ h)
  have hown : s.vm.findClass RX6 = some m.cls := findClass_of_methodNamed B.named
  have hlocks := B.notSynchronized
  have hT0 := hT
  subst hsz
  have hD := hD0.self (sz := s.heap.size)
  generalize hAe : va_A (oh_W 35 a C) s.heap.size = A at hD hG ⊢
  have hA : ∀ q : Nat, s.heap.size ≤ q → A q := fun q h => by rw [← hAe]; exact Or.inr h
  have hS : va_S A s.heap s.heap [] := va_S.rf
  have hF : fr [(7, 8), (9, 10), (24, 26), (28, 29)] [] C C := fr_rf
  have hl := lv_entry ([.ref (a 0), .int x1, .int x2, .int x3, .int x4, .int x5]) (n := 7) (Nat.le_of_ble_eq_true rfl)
  rw [lg_entry_eq]
  generalize (lg_sl ([.ref (a 0), .int x1, .int x2, .int x3, .int x4, .int x5]) ++ List.replicate (7 - (lg_sl ([.ref (a 0), .int x1, .int x2, .int x3, .int x4, .int x5])).length) Slot.unset).toArray = ls at hl ⊢
  have hl : lv_has ls 7 [(0, .ref (a 0)), (1, .int x1), (2, .int x2), (3, .int x3), (4, .int x4), (5, .int x5)] := hl
  refine oh_genQ (fun Q hQ => ?_)
  refine lv_aload_n hx hb dX6_judge_0 rfl (lv_at hl 0 rfl) ?_
  refine lv_iload_n hx hb dX6_judge_1 rfl (lv_at hl 1 rfl) ?_
  refine lv_iload_n hx hb dX6_judge_2 rfl (lv_at hl 2 rfl) ?_
  refine lv_iload_n hx hb dX6_judge_3 rfl (lv_at hl 3 rfl) ?_
  refine lv_iload hx hb dX6_judge_4 (lv_at hl 4 rfl) ?_
  refine lv_iload hx hb dX6_judge_6 (lv_at hl 5 rfl) ?_
  refine tq_V (As := [.int x1, .int x2, .int x3, .int x4, .int x5]) (rest := []) (ws := (oh_W 35 a C)) ⟨hx, hb, hml, hown, htg⟩ (c_X6_whyNotTold l D E G a C hT x1 x2 x3 x4 x5) (cwV 5 htg (oh_gV q_830 q_832 q_23 q_66 q_833) rfl rfl rfl pdVX6_whyNotTold ⟨Nat.le_of_ble_eq_true rfl, Nat.le_of_ble_eq_true rfl⟩) hK hP hG hS (va_recv hK hP (ci := 6) (q0 := 0) rfl (oh_wg (by decide) (sX_0 hT))) rfl hl.1 rfl (Nat.le_of_ble_eq_true rfl) dX6_judge_8 ⟨Nat.le_of_ble_eq_true rfl, Nat.le_of_ble_eq_true rfl⟩ (fun r_1 hq_2 => ?_)
  refine lv_istore (lv' := [(6, .int r_1), (0, .ref (a 0)), (1, .int x1), (2, .int x2), (3, .int x3), (4, .int x4), (5, .int x5)]) hx hb dX6_judge_11 hl (by decide) rfl (fun ls hl => ?_)
  refine lv_iload hx hb dX6_judge_13 (lv_at hl 0 rfl) ?_
  refine lv_if_eq (tgt := 25) hx hb dX6_judge_15 (by decide) (fun (c_3 : r_1 = 0) => ?_) (fun (c_3 : ¬ (r_1 = 0)) => ?_)
  · have u_4 := hq_2 c_3
    refine lv_aload_n hx hb dX6_judge_25 rfl (lv_at hl 1 rfl) ?_
    refine va_get (D := D) (ci := 6) (v := .ref (a 3)) (C := RX6) (T := TX6) (N := 9) hx hb htg ig_6 hown hK hP 0 (oh_wg (by decide) (sX_0 hT)) rfl 3 (by decide) (htg _ q_261) (fun _ h9 => h9) rfl dX6_judge_26 ?_
    refine lv_iload_n hx hb dX6_judge_29 rfl (lv_at hl 2 rfl) ?_
    refine lv_iload_n hx hb dX6_judge_30 rfl (lv_at hl 3 rfl) ?_
    refine tm_Vv (As := [.int x1, .int x2]) (rest := []) ⟨hx, hb, hml, hown, htg⟩ (c_X5_survey l D E G _ a C hT x1 x2 (rg_w u_4.1 (by decide))) (cwV 2 htg (oh_gV q_750 q_751 q_752 q_68 q_753) rfl rfl rfl pdVX5_survey ⟨Nat.le_of_ble_eq_true rfl, Nat.le_of_ble_eq_true rfl⟩) hK hP hD hG hS hA (va_recv hK hP (ci := 5) (q0 := 3) rfl (oh_wg (by decide) (sX_3 hT))) rfl hl.1 rfl (Nat.le_of_ble_eq_true rfl) dX6_judge_31 ⟨Nat.le_of_ble_eq_true rfl, Nat.le_of_ble_eq_true rfl⟩ (fun C_6 H locs hq_7 hP hD hS => ?_)
    obtain ⟨hT, f_8, hq_7⟩ := hq_7
    have hF := fr_tr hF f_8 (by decide) (by decide)
    refine W.widen (k := 0) (n := 0) (Nat.le_refl _) (Nat.le_refl _) ?_
    have t_9 := hT
    refine lv_aload_n hx hb dX6_judge_34 rfl (lv_at hl 1 rfl) ?_
    refine lv_iload_n hx hb dX6_judge_35 rfl (lv_at hl 4 rfl) ?_
    refine lv_iload hx hb dX6_judge_36 (lv_at hl 5 rfl) ?_
    refine lv_iload hx hb dX6_judge_38 (lv_at hl 6 rfl) ?_
    refine tm_V (As := [.int x3, .int x4, .int x5]) (rest := []) ⟨hx, hb, hml, hown, htg⟩ (c_X6_firstWrong l D E G _ a C_6 hT x3 x4 x5 (rg_w u_4.2.1 (by decide)) (rg_w u_4.2.2.1 (by decide)) (rg_w u_4.2.2.2 (by decide))) (cwV 3 htg (oh_gV q_834 q_836 q_24 q_66 q_837) rfl rfl rfl pdVX6_firstWrong ⟨Nat.le_of_ble_eq_true rfl, Nat.le_of_ble_eq_true rfl⟩) hK hP hD hG hS hA (va_recv hK hP (ci := 6) (q0 := 0) rfl (oh_wg (by decide) (sX_0 hT))) rfl hl.1 rfl (Nat.le_of_ble_eq_true rfl) dX6_judge_40 ⟨Nat.le_of_ble_eq_true rfl, Nat.le_of_ble_eq_true rfl⟩ (fun r_10 C_11 H locs hq_12 hP hD hS => ?_)
    obtain ⟨hT, f_13, hq_12⟩ := hq_12
    have hF := fr_tr hF f_13 (by decide) (by decide)
    refine W.widen (k := 0) (n := 0) (Nat.le_refl _) (Nat.le_refl _) ?_
    have t_14 := hT
    rw [hQ]
    exact W.iret (v := r_10) hx hb hr (fun t ht hW => ⟨⟨r_10, C_11, rfl, ⟨hT, hF, trivial⟩, ⟨by rw [ht]; exact hP, hD⟩⟩, hS.F ht⟩) hS.2.2 dX6_judge_43
  · refine lv_aload_n hx hb dX6_judge_18 rfl (lv_at hl 1 rfl) ?_
    refine lv_iload hx hb dX6_judge_19 (lv_at hl 0 rfl) ?_
    refine tm_V (As := [.int r_1]) (rest := []) ⟨hx, hb, hml, hown, htg⟩ (c_X6_refuse l D E G _ a C hT r_1) (cwV 1 htg (oh_gV q_296 q_298 q_0 q_66 q_299) rfl rfl rfl pdVX6_refuse ⟨Nat.le_of_ble_eq_true rfl, Nat.le_of_ble_eq_true rfl⟩) hK hP hD hG hS hA (va_recv hK hP (ci := 6) (q0 := 0) rfl (oh_wg (by decide) (sX_0 hT))) rfl hl.1 rfl (Nat.le_of_ble_eq_true rfl) dX6_judge_21 ⟨Nat.le_of_ble_eq_true rfl, Nat.le_of_ble_eq_true rfl⟩ (fun r_15 C_16 H locs hq_17 hP hD hS => ?_)
    obtain ⟨hT, f_18, hq_17⟩ := hq_17
    have hF := fr_tr hF f_18 (by decide) (by decide)
    refine W.widen (k := 0) (n := 0) (Nat.le_refl _) (Nat.le_refl _) ?_
    have t_19 := hT
    rw [hQ]
    exact W.iret (v := r_15) hx hb hr (fun t ht hW => ⟨⟨r_15, C_16, rfl, ⟨hT, hF, trivial⟩, ⟨by rw [ht]; exact hP, hD⟩⟩, hS.F ht⟩) hS.2.2 dX6_judge_24

set_option maxHeartbeats 4000000 in
set_option maxRecDepth 100000 in
theorem c_X6_told (l : Launch) (D : va_G) (E : Nat → ClassId) (G : Nat → Nat) (sz : Nat) (a : Nat → Nat) (C : Nat → va_E) (hT : TyX a E C) (x1 : Int32) (x2 : Int32) (x3 : Int32) (x4 : Int32) (x5 : Int32) (x6 : Int32) : Met l yX6_told (oh_w yX6_told cX6_told 8 (some .int)) ({ frames := 5, cells := 0, slots := 0, locals := 113 }) (oh_Pm D E G [.ref (a 0), .int x1, .int x2, .int x3, .int x4, .int x5, .int x6] (oh_W 35 a C) sz) (va_Qi (fun r (u : Nat → va_E) => TyX a E u ∧ fr [(7, 8), (9, 10), (24, 26), (28, 29)] [] C u ∧ True) (oh_B D (va_A (oh_W 35 a C) sz) (fun u => oh_W 35 a u)) (va_A (oh_W 35 a C) sz)) 0 0 (va_A (oh_W 35 a C) sz) := by
  refine Met.ofW (cc := cX6_told) (maxL := 8) (ret := (some .int)) (by decide) rfl ?_
  intro p e s m args below meth c s₁ B hml hv
  obtain ⟨rfl, hsz, hP, hK, hD0, hG⟩ := hv
  have hx := B.exec
  have hb := B.bytes
  have hr := B.returns
  have hts := atoms_spec (ws := (oh_w yX6_told cX6_told 8 (some .int))) B.pre
  have htg : ∀ w ∈ oh_t, w.before _ s = true := fun w h => hts w (List.mem_cons_of_mem _ h)
  have hown : s.vm.findClass RX6 = some m.cls := findClass_of_methodNamed B.named
  have hlocks := B.notSynchronized
  have hT0 := hT
  subst hsz
  have hD := hD0.self (sz := s.heap.size)
  generalize hAe : va_A (oh_W 35 a C) s.heap.size = A at hD hG ⊢
  have hA : ∀ q : Nat, s.heap.size ≤ q → A q := fun q h => by rw [← hAe]; exact Or.inr h
  have hS : va_S A s.heap s.heap [] := va_S.rf
  have hF : fr [(7, 8), (9, 10), (24, 26), (28, 29)] [] C C := fr_rf
  have hl := lv_entry ([.ref (a 0), .int x1, .int x2, .int x3, .int x4, .int x5, .int x6]) (n := 8) (Nat.le_of_ble_eq_true rfl)
  rw [lg_entry_eq]
  generalize (lg_sl ([.ref (a 0), .int x1, .int x2, .int x3, .int x4, .int x5, .int x6]) ++ List.replicate (8 - (lg_sl ([.ref (a 0), .int x1, .int x2, .int x3, .int x4, .int x5, .int x6])).length) Slot.unset).toArray = ls at hl ⊢
  have hl : lv_has ls 8 [(0, .ref (a 0)), (1, .int x1), (2, .int x2), (3, .int x3), (4, .int x4), (5, .int x5), (6, .int x6)] := hl
  refine oh_genQ (fun Q hQ => ?_)
  refine lv_iload hx hb dX6_told_0 (lv_at hl 6 rfl) ?_
  refine lv_iconst (v := 0) hx hb dX6_told_2 (by decide) ?_
  refine lv_iconst (v := 3) hx hb dX6_told_3 (by decide) ?_
  refine tq_S (As := [.int x6, .int 0, .int 3]) (rest := []) (ws := []) ⟨hx, hb, hml, hown, htg⟩ (c_X6_within l D E G x6 (0 : Int32) (3 : Int32)) (va_cwS 3 htg (oh_gS q_293 q_294 q_66 q_295) rfl rfl rfl pdX6_within ⟨Nat.le_of_ble_eq_true rfl, Nat.le_of_ble_eq_true rfl⟩) hK va_nil hG hS rfl hl.1 rfl (Nat.le_of_ble_eq_true rfl) dX6_told_4 ⟨Nat.le_of_ble_eq_true rfl, Nat.le_of_ble_eq_true rfl⟩ (fun r_1 hq_2 => ?_)
  refine lv_if_eq (tgt := 24) hx hb dX6_told_7 (by decide) (fun (c_3 : r_1 = 0) => ?_) (fun (c_3 : ¬ (r_1 = 0)) => ?_)
  · have u_4 := hq_2.2.2 c_3
    refine lv_bipush (v := (-2)) hx hb dX6_told_24 (by decide) ?_
    refine lv_istore (lv' := [(7, .int (-2)), (0, .ref (a 0)), (1, .int x1), (2, .int x2), (3, .int x3), (4, .int x4), (5, .int x5), (6, .int x6)]) hx hb dX6_told_26 hl (by decide) rfl (fun ls hl => ?_)
    refine lv_iload hx hb dX6_told_28 (lv_at hl 0 rfl) ?_
    refine lv_if_eq (tgt := 40) hx hb dX6_told_30 (by decide) (fun c => absurd c (show ¬ (((-2) : Int32) = 0) from by decide)) (fun _ => ?_)
    refine lv_aload_n hx hb dX6_told_33 rfl (lv_at hl 1 rfl) ?_
    refine lv_iload hx hb dX6_told_34 (lv_at hl 0 rfl) ?_
    refine tm_V (As := [.int (-2)]) (rest := []) ⟨hx, hb, hml, hown, htg⟩ (c_X6_refuse l D E G _ a C hT ((-2) : Int32)) (cwV 1 htg (oh_gV q_296 q_298 q_0 q_66 q_299) rfl rfl rfl pdVX6_refuse ⟨Nat.le_of_ble_eq_true rfl, Nat.le_of_ble_eq_true rfl⟩) hK hP hD hG hS hA (va_recv hK hP (ci := 6) (q0 := 0) rfl (oh_wg (by decide) (sX_0 hT))) rfl hl.1 rfl (Nat.le_of_ble_eq_true rfl) dX6_told_36 ⟨Nat.le_of_ble_eq_true rfl, Nat.le_of_ble_eq_true rfl⟩ (fun r_5 C_6 H locs hq_7 hP hD hS => ?_)
    obtain ⟨hT, f_8, hq_7⟩ := hq_7
    have hF := fr_tr hF f_8 (by decide) (by decide)
    refine W.widen (k := 0) (n := 0) (Nat.le_refl _) (Nat.le_refl _) ?_
    have t_9 := hT
    rw [hQ]
    exact W.iret (v := r_5) hx hb hr (fun t ht hW => ⟨⟨r_5, C_6, rfl, ⟨hT, hF, trivial⟩, ⟨by rw [ht]; exact hP, hD⟩⟩, hS.F ht⟩) hS.2.2 dX6_told_39
  · have u_10 := hq_2.2.1 c_3
    refine lv_aload_n hx hb dX6_told_10 rfl (lv_at hl 0 rfl) ?_
    refine lv_iload_n hx hb dX6_told_11 rfl (lv_at hl 1 rfl) ?_
    refine lv_iload_n hx hb dX6_told_12 rfl (lv_at hl 2 rfl) ?_
    refine lv_iload_n hx hb dX6_told_13 rfl (lv_at hl 3 rfl) ?_
    refine lv_iload hx hb dX6_told_14 (lv_at hl 4 rfl) ?_
    refine lv_iload hx hb dX6_told_16 (lv_at hl 5 rfl) ?_
    refine tq_V (As := [.int x1, .int x2, .int x3, .int x4, .int x5]) (rest := []) (ws := (oh_W 35 a C)) ⟨hx, hb, hml, hown, htg⟩ (c_X6_whyNotTold l D E G a C hT x1 x2 x3 x4 x5) (cwV 5 htg (oh_gV q_830 q_832 q_23 q_66 q_833) rfl rfl rfl pdVX6_whyNotTold ⟨Nat.le_of_ble_eq_true rfl, Nat.le_of_ble_eq_true rfl⟩) hK hP hG hS (va_recv hK hP (ci := 6) (q0 := 0) rfl (oh_wg (by decide) (sX_0 hT))) rfl hl.1 rfl (Nat.le_of_ble_eq_true rfl) dX6_told_18 ⟨Nat.le_of_ble_eq_true rfl, Nat.le_of_ble_eq_true rfl⟩ (fun r_11 hq_12 => ?_)
    refine lv_goto (tgt := 26) hx hb dX6_told_21 (by decide) ?_
    refine lv_istore (lv' := [(7, .int r_11), (0, .ref (a 0)), (1, .int x1), (2, .int x2), (3, .int x3), (4, .int x4), (5, .int x5), (6, .int x6)]) hx hb dX6_told_26 hl (by decide) rfl (fun ls hl => ?_)
    refine lv_iload hx hb dX6_told_28 (lv_at hl 0 rfl) ?_
    refine lv_if_eq (tgt := 40) hx hb dX6_told_30 (by decide) (fun (c_13 : r_11 = 0) => ?_) (fun (c_13 : ¬ (r_11 = 0)) => ?_)
    · have u_14 := hq_12 c_13
      refine lv_aload_n hx hb dX6_told_40 rfl (lv_at hl 1 rfl) ?_
      refine va_get (D := D) (ci := 6) (v := .ref (a 3)) (C := RX6) (T := TX6) (N := 9) hx hb htg ig_6 hown hK hP 0 (oh_wg (by decide) (sX_0 hT)) rfl 3 (by decide) (htg _ q_261) (fun _ h9 => h9) rfl dX6_told_41 ?_
      refine lv_iload_n hx hb dX6_told_44 rfl (lv_at hl 2 rfl) ?_
      refine lv_iload_n hx hb dX6_told_45 rfl (lv_at hl 3 rfl) ?_
      refine tm_Vv (As := [.int x1, .int x2]) (rest := []) ⟨hx, hb, hml, hown, htg⟩ (c_X5_survey l D E G _ a C hT x1 x2 (rg_w u_14.1 (by decide))) (cwV 2 htg (oh_gV q_750 q_751 q_752 q_68 q_753) rfl rfl rfl pdVX5_survey ⟨Nat.le_of_ble_eq_true rfl, Nat.le_of_ble_eq_true rfl⟩) hK hP hD hG hS hA (va_recv hK hP (ci := 5) (q0 := 3) rfl (oh_wg (by decide) (sX_3 hT))) rfl hl.1 rfl (Nat.le_of_ble_eq_true rfl) dX6_told_46 ⟨Nat.le_of_ble_eq_true rfl, Nat.le_of_ble_eq_true rfl⟩ (fun C_16 H locs hq_17 hP hD hS => ?_)
      obtain ⟨hT, f_18, hq_17⟩ := hq_17
      have hF := fr_tr hF f_18 (by decide) (by decide)
      refine W.widen (k := 0) (n := 0) (Nat.le_refl _) (Nat.le_refl _) ?_
      have t_19 := hT
      refine lv_aload_n hx hb dX6_told_49 rfl (lv_at hl 1 rfl) ?_
      refine lv_iload_n hx hb dX6_told_50 rfl (lv_at hl 4 rfl) ?_
      refine lv_iload hx hb dX6_told_51 (lv_at hl 5 rfl) ?_
      refine lv_iload hx hb dX6_told_53 (lv_at hl 6 rfl) ?_
      refine tm_V (As := [.int x3, .int x4, .int x5]) (rest := []) ⟨hx, hb, hml, hown, htg⟩ (c_X6_firstWrong l D E G _ a C_16 hT x3 x4 x5 (rg_w u_14.2.1 (by decide)) (rg_w u_14.2.2.1 (by decide)) (rg_w u_14.2.2.2 (by decide))) (cwV 3 htg (oh_gV q_834 q_836 q_24 q_66 q_837) rfl rfl rfl pdVX6_firstWrong ⟨Nat.le_of_ble_eq_true rfl, Nat.le_of_ble_eq_true rfl⟩) hK hP hD hG hS hA (va_recv hK hP (ci := 6) (q0 := 0) rfl (oh_wg (by decide) (sX_0 hT))) rfl hl.1 rfl (Nat.le_of_ble_eq_true rfl) dX6_told_55 ⟨Nat.le_of_ble_eq_true rfl, Nat.le_of_ble_eq_true rfl⟩ (fun r_20 C_21 H locs hq_22 hP hD hS => ?_)
      obtain ⟨hT, f_23, hq_22⟩ := hq_22
      have hF := fr_tr hF f_23 (by decide) (by decide)
      refine W.widen (k := 0) (n := 0) (Nat.le_refl _) (Nat.le_refl _) ?_
      have t_24 := hT
      refine lv_iconst (v := (-1)) hx hb dX6_told_58 (by decide) ?_
      refine lv_icmp_eq (tgt := 69) hx hb dX6_told_59 (by decide) (fun (c_25 : r_20 = (-1)) => ?_) (fun (c_25 : ¬ (r_20 = (-1))) => ?_)
      · refine lv_iload hx hb dX6_told_69 (lv_at hl 7 rfl) ?_
        refine lv_iconst (v := 2) hx hb dX6_told_71 (by decide) ?_
        refine lv_icmp_ne (tgt := 90) hx hb dX6_told_72 (by decide) (fun (c_26 : ¬ (x6 = 2)) => ?_) (fun (c_26 : x6 = 2) => ?_)
        · refine lv_aload_n hx hb dX6_told_90 rfl (lv_at hl 1 rfl) ?_
          refine va_get (D := D) (ci := 6) (v := .ref (a 3)) (C := RX6) (T := TX6) (N := 9) hx hb htg ig_6 hown hK hP 0 (oh_wg (by decide) (sX_0 hT)) rfl 3 (by decide) (htg _ q_261) (fun _ h9 => h9) rfl dX6_told_91 ?_
          refine va_get (D := D) (ci := 5) (v := .ref (a 28)) (C := RX5) (T := TX5) (N := 7) hx hb htg ig_5 hown hK hP 3 (oh_wg (by decide) (sX_3 hT)) rfl 6 (by decide) (htg _ q_176) (fun _ h9 => h9) rfl dX6_told_94 ?_
          refine lv_iload hx hb dX6_told_97 (lv_at hl 7 rfl) ?_
          have n_27 : vp_in x6 4 := (rg_in (rn_leu u_10.2 (rn_lel u_10.1 (rg_c (v := 0) (lo := 0) (hi := 0) (by decide)) (rg_any _)) (rg_c (v := 3) (lo := 3) (hi := 3) (by decide))) (by decide))
          refine th_iald hx hb hK hP 28 (by decide) (sX_28 hT) n_27 dX6_told_99 ?_
          rw [hQ]
          exact W.iret (v := ga (C_21 28) (x6).toNatClampNeg) hx hb hr (fun t ht hW => ⟨⟨ga (C_21 28) (x6).toNatClampNeg, C_21, rfl, ⟨hT, hF, trivial⟩, ⟨by rw [ht]; exact hP, hD⟩⟩, hS.F ht⟩) hS.2.2 dX6_told_100
        · refine lv_aload_n hx hb dX6_told_75 rfl (lv_at hl 1 rfl) ?_
          refine va_get (D := D) (ci := 6) (v := .ref (a 3)) (C := RX6) (T := TX6) (N := 9) hx hb htg ig_6 hown hK hP 0 (oh_wg (by decide) (sX_0 hT)) rfl 3 (by decide) (htg _ q_261) (fun _ h9 => h9) rfl dX6_told_76 ?_
          refine va_get (D := D) (ci := 5) (v := .ref (a 28)) (C := RX5) (T := TX5) (N := 7) hx hb htg ig_5 hown hK hP 3 (oh_wg (by decide) (sX_3 hT)) rfl 6 (by decide) (htg _ q_176) (fun _ h9 => h9) rfl dX6_told_79 ?_
          refine lv_iconst (v := 2) hx hb dX6_told_82 (by decide) ?_
          refine th_iald hx hb hK hP 28 (by decide) (sX_28 hT) (rg_in (rg_c (v := 2) (lo := 2) (hi := 2) (by decide)) (by decide)) dX6_told_83 ?_
          refine tq_S (As := [.int (ga (C_21 28) ((2 : Int32)).toNatClampNeg)]) (rest := []) (ws := []) ⟨hx, hb, hml, hown, htg⟩ (c_J6_bitCount_0f7a4 l D E G (ga (C_21 28) ((2 : Int32)).toNatClampNeg)) (va_cwS 1 htg (oh_gS q_854 q_855 q_80 q_856) rfl rfl rfl pdJ6_bitCount_0f7a4 ⟨Nat.le_of_ble_eq_true rfl, Nat.le_of_ble_eq_true rfl⟩) hK va_nil hG hS rfl hl.1 rfl (Nat.le_of_ble_eq_true rfl) dX6_told_84 ⟨Nat.le_of_ble_eq_true rfl, Nat.le_of_ble_eq_true rfl⟩ (fun r_28 hq_29 => ?_)
          refine lv_goto (tgt := 100) hx hb dX6_told_87 (by decide) ?_
          rw [hQ]
          exact W.iret (v := r_28) hx hb hr (fun t ht hW => ⟨⟨r_28, C_21, rfl, ⟨hT, hF, trivial⟩, ⟨by rw [ht]; exact hP, hD⟩⟩, hS.F ht⟩) hS.2.2 dX6_told_100
      · refine lv_aload_n hx hb dX6_told_62 rfl (lv_at hl 1 rfl) ?_
        refine lv_bipush (v := (-5)) hx hb dX6_told_63 (by decide) ?_
        refine tm_V (As := [.int (-5)]) (rest := []) ⟨hx, hb, hml, hown, htg⟩ (c_X6_refuse l D E G _ a C_21 hT ((-5) : Int32)) (cwV 1 htg (oh_gV q_296 q_298 q_0 q_66 q_299) rfl rfl rfl pdVX6_refuse ⟨Nat.le_of_ble_eq_true rfl, Nat.le_of_ble_eq_true rfl⟩) hK hP hD hG hS hA (va_recv hK hP (ci := 6) (q0 := 0) rfl (oh_wg (by decide) (sX_0 hT))) rfl hl.1 rfl (Nat.le_of_ble_eq_true rfl) dX6_told_65 ⟨Nat.le_of_ble_eq_true rfl, Nat.le_of_ble_eq_true rfl⟩ (fun r_30 C_31 H locs hq_32 hP hD hS => ?_)
        obtain ⟨hT, f_33, hq_32⟩ := hq_32
        have hF := fr_tr hF f_33 (by decide) (by decide)
        refine W.widen (k := 0) (n := 0) (Nat.le_refl _) (Nat.le_refl _) ?_
        have t_34 := hT
        rw [hQ]
        exact W.iret (v := r_30) hx hb hr (fun t ht hW => ⟨⟨r_30, C_31, rfl, ⟨hT, hF, trivial⟩, ⟨by rw [ht]; exact hP, hD⟩⟩, hS.F ht⟩) hS.2.2 dX6_told_68
    · refine lv_aload_n hx hb dX6_told_33 rfl (lv_at hl 1 rfl) ?_
      refine lv_iload hx hb dX6_told_34 (lv_at hl 0 rfl) ?_
      refine tm_V (As := [.int r_11]) (rest := []) ⟨hx, hb, hml, hown, htg⟩ (c_X6_refuse l D E G _ a C hT r_11) (cwV 1 htg (oh_gV q_296 q_298 q_0 q_66 q_299) rfl rfl rfl pdVX6_refuse ⟨Nat.le_of_ble_eq_true rfl, Nat.le_of_ble_eq_true rfl⟩) hK hP hD hG hS hA (va_recv hK hP (ci := 6) (q0 := 0) rfl (oh_wg (by decide) (sX_0 hT))) rfl hl.1 rfl (Nat.le_of_ble_eq_true rfl) dX6_told_36 ⟨Nat.le_of_ble_eq_true rfl, Nat.le_of_ble_eq_true rfl⟩ (fun r_35 C_36 H locs hq_37 hP hD hS => ?_)
      obtain ⟨hT, f_38, hq_37⟩ := hq_37
      have hF := fr_tr hF f_38 (by decide) (by decide)
      refine W.widen (k := 0) (n := 0) (Nat.le_refl _) (Nat.le_refl _) ?_
      have t_39 := hT
      rw [hQ]
      exact W.iret (v := r_35) hx hb hr (fun t ht hW => ⟨⟨r_35, C_36, rfl, ⟨hT, hF, trivial⟩, ⟨by rw [ht]; exact hP, hD⟩⟩, hS.F ht⟩) hS.2.2 dX6_told_39

set_option maxHeartbeats 4000000 in
set_option maxRecDepth 100000 in
theorem c_X6_fewest (l : Launch) (D : va_G) (E : Nat → ClassId) (G : Nat → Nat) (sz : Nat) (a : Nat → Nat) (C : Nat → va_E) (hT : TyX a E C) (x1 : Int32) (x2 : Int32) (x3 : Int32) : Met l yX6_fewest (oh_w yX6_fewest cX6_fewest 7 (some .int)) ({ frames := 5, cells := 0, slots := 0, locals := 124 }) (oh_Pm D E G [.ref (a 0), .int x1, .int x2, .int x3] (oh_W 35 a C) sz) (va_Qi (fun r (u : Nat → va_E) => TyX a E u ∧ fr [(7, 8), (9, 10), (24, 28)] [] C u ∧ True) (oh_B D (va_A (oh_W 35 a C) sz) (fun u => oh_W 35 a u)) (va_A (oh_W 35 a C) sz)) 0 0 (va_A (oh_W 35 a C) sz) := by
  refine Met.ofW (cc := cX6_fewest) (maxL := 7) (ret := (some .int)) (by decide) rfl ?_
  intro p e s m args below meth c s₁ B hml hv
  obtain ⟨rfl, hsz, hP, hK, hD0, hG⟩ := hv
  have hx := B.exec
  have hb := B.bytes
  have hr := B.returns
  have hts := atoms_spec (ws := (oh_w yX6_fewest cX6_fewest 7 (some .int))) B.pre
  have htg : ∀ w ∈ oh_t, w.before _ s = true := fun w h => hts w (List.mem_cons_of_mem _ h)
  have hown : s.vm.findClass RX6 = some m.cls := findClass_of_methodNamed B.named
  have hlocks := B.notSynchronized
  have hT0 := hT
  subst hsz
  have hD := hD0.self (sz := s.heap.size)
  generalize hAe : va_A (oh_W 35 a C) s.heap.size = A at hD hG ⊢
  have hA : ∀ q : Nat, s.heap.size ≤ q → A q := fun q h => by rw [← hAe]; exact Or.inr h
  have hS : va_S A s.heap s.heap [] := va_S.rf
  have hF : fr [(7, 8), (9, 10), (24, 28)] [] C C := fr_rf
  have hl := lv_entry ([.ref (a 0), .int x1, .int x2, .int x3]) (n := 7) (Nat.le_of_ble_eq_true rfl)
  rw [lg_entry_eq]
  generalize (lg_sl ([.ref (a 0), .int x1, .int x2, .int x3]) ++ List.replicate (7 - (lg_sl ([.ref (a 0), .int x1, .int x2, .int x3])).length) Slot.unset).toArray = ls at hl ⊢
  have hl : lv_has ls 7 [(0, .ref (a 0)), (1, .int x1), (2, .int x2), (3, .int x3)] := hl
  refine oh_genQ (fun Q hQ => ?_)
  refine lv_aload_n hx hb dX6_fewest_0 rfl (lv_at hl 0 rfl) ?_
  refine lv_iload_n hx hb dX6_fewest_1 rfl (lv_at hl 1 rfl) ?_
  refine tq_V (As := [.int x1]) (rest := []) (ws := (oh_W 35 a C)) ⟨hx, hb, hml, hown, htg⟩ (c_X6_isWaggon l D E G a C hT x1) (cwV 1 htg (oh_gV q_679 q_681 q_15 q_66 q_682) rfl rfl rfl pdVX6_isWaggon ⟨Nat.le_of_ble_eq_true rfl, Nat.le_of_ble_eq_true rfl⟩) hK hP hG hS (va_recv hK hP (ci := 6) (q0 := 0) rfl (oh_wg (by decide) (sX_0 hT))) rfl hl.1 rfl (Nat.le_of_ble_eq_true rfl) dX6_fewest_2 ⟨Nat.le_of_ble_eq_true rfl, Nat.le_of_ble_eq_true rfl⟩ (fun r_1 hq_2 => ?_)
  refine lv_if_eq (tgt := 22) hx hb dX6_fewest_5 (by decide) (fun (c_3 : r_1 = 0) => ?_) (fun (c_3 : ¬ (r_1 = 0)) => ?_)
  · refine lv_aload_n hx hb dX6_fewest_22 rfl (lv_at hl 0 rfl) ?_
    refine lv_bipush (v := (-2)) hx hb dX6_fewest_23 (by decide) ?_
    refine tm_V (As := [.int (-2)]) (rest := []) ⟨hx, hb, hml, hown, htg⟩ (c_X6_refuse l D E G _ a C hT ((-2) : Int32)) (cwV 1 htg (oh_gV q_296 q_298 q_0 q_66 q_299) rfl rfl rfl pdVX6_refuse ⟨Nat.le_of_ble_eq_true rfl, Nat.le_of_ble_eq_true rfl⟩) hK hP hD hG hS hA (va_recv hK hP (ci := 6) (q0 := 0) rfl (oh_wg (by decide) (sX_0 hT))) rfl hl.1 rfl (Nat.le_of_ble_eq_true rfl) dX6_fewest_25 ⟨Nat.le_of_ble_eq_true rfl, Nat.le_of_ble_eq_true rfl⟩ (fun r_4 C_5 H locs hq_6 hP hD hS => ?_)
    obtain ⟨hT, f_7, hq_6⟩ := hq_6
    have hF := fr_tr hF f_7 (by decide) (by decide)
    refine W.widen (k := 0) (n := 0) (Nat.le_refl _) (Nat.le_refl _) ?_
    have t_8 := hT
    rw [hQ]
    exact W.iret (v := r_4) hx hb hr (fun t ht hW => ⟨⟨r_4, C_5, rfl, ⟨hT, hF, trivial⟩, ⟨by rw [ht]; exact hP, hD⟩⟩, hS.F ht⟩) hS.2.2 dX6_fewest_28
  · have u_9 := hq_2.2 c_3
    refine lv_iload_n hx hb dX6_fewest_8 rfl (lv_at hl 2 rfl) ?_
    refine tq_S (As := [.int x2]) (rest := []) (ws := []) ⟨hx, hb, hml, hown, htg⟩ (c_X6_isPlace l D E G x2) (va_cwS 1 htg (oh_gS q_413 q_414 q_66 q_415) rfl rfl rfl pdX6_isPlace ⟨Nat.le_of_ble_eq_true rfl, Nat.le_of_ble_eq_true rfl⟩) hK va_nil hG hS rfl hl.1 rfl (Nat.le_of_ble_eq_true rfl) dX6_fewest_9 ⟨Nat.le_of_ble_eq_true rfl, Nat.le_of_ble_eq_true rfl⟩ (fun r_10 hq_11 => ?_)
    refine lv_if_eq (tgt := 22) hx hb dX6_fewest_12 (by decide) (fun (c_12 : r_10 = 0) => ?_) (fun (c_12 : ¬ (r_10 = 0)) => ?_)
    · refine lv_aload_n hx hb dX6_fewest_22 rfl (lv_at hl 0 rfl) ?_
      refine lv_bipush (v := (-2)) hx hb dX6_fewest_23 (by decide) ?_
      refine tm_V (As := [.int (-2)]) (rest := []) ⟨hx, hb, hml, hown, htg⟩ (c_X6_refuse l D E G _ a C hT ((-2) : Int32)) (cwV 1 htg (oh_gV q_296 q_298 q_0 q_66 q_299) rfl rfl rfl pdVX6_refuse ⟨Nat.le_of_ble_eq_true rfl, Nat.le_of_ble_eq_true rfl⟩) hK hP hD hG hS hA (va_recv hK hP (ci := 6) (q0 := 0) rfl (oh_wg (by decide) (sX_0 hT))) rfl hl.1 rfl (Nat.le_of_ble_eq_true rfl) dX6_fewest_25 ⟨Nat.le_of_ble_eq_true rfl, Nat.le_of_ble_eq_true rfl⟩ (fun r_13 C_14 H locs hq_15 hP hD hS => ?_)
      obtain ⟨hT, f_16, hq_15⟩ := hq_15
      have hF := fr_tr hF f_16 (by decide) (by decide)
      refine W.widen (k := 0) (n := 0) (Nat.le_refl _) (Nat.le_refl _) ?_
      have t_17 := hT
      rw [hQ]
      exact W.iret (v := r_13) hx hb hr (fun t ht hW => ⟨⟨r_13, C_14, rfl, ⟨hT, hF, trivial⟩, ⟨by rw [ht]; exact hP, hD⟩⟩, hS.F ht⟩) hS.2.2 dX6_fewest_28
    · have u_18 := hq_11.2 c_12
      refine lv_iload_n hx hb dX6_fewest_15 rfl (lv_at hl 3 rfl) ?_
      refine tq_S (As := [.int x3]) (rest := []) (ws := []) ⟨hx, hb, hml, hown, htg⟩ (c_X6_isPlace l D E G x3) (va_cwS 1 htg (oh_gS q_413 q_414 q_66 q_415) rfl rfl rfl pdX6_isPlace ⟨Nat.le_of_ble_eq_true rfl, Nat.le_of_ble_eq_true rfl⟩) hK va_nil hG hS rfl hl.1 rfl (Nat.le_of_ble_eq_true rfl) dX6_fewest_16 ⟨Nat.le_of_ble_eq_true rfl, Nat.le_of_ble_eq_true rfl⟩ (fun r_19 hq_20 => ?_)
      refine lv_if_ne (tgt := 29) hx hb dX6_fewest_19 (by decide) (fun (c_21 : ¬ (r_19 = 0)) => ?_) (fun (c_21 : r_19 = 0) => ?_)
      · have u_22 := hq_20.2 c_21
        refine lv_iconst (v := (-1)) hx hb dX6_fewest_29 (by decide) ?_
        refine lv_istore (lv' := [(4, .int (-1)), (0, .ref (a 0)), (1, .int x1), (2, .int x2), (3, .int x3)]) hx hb dX6_fewest_30 hl (by decide) rfl (fun ls hl => ?_)
        refine va_gets hx hb hG.2.2.2.1.1 hS hown (htg _ q_880) (fun _ h9 => h9) dX6_fewest_32 ?_
        refine lv_iconst (v := 3) hx hb dX6_fewest_35 (by decide) ?_
        refine va_ti (v := .int 5) hx hb hG.2.2.2.1.2 hS (rg_in (rg_c (v := 3) (lo := 3) (hi := 3) (by decide)) (by decide)) (by decide) dX6_fewest_36 ?_
        refine lv_iconst (v := 1) hx hb dX6_fewest_37 (by decide) ?_
        refine lv_iadd hx hb dX6_fewest_38 ?_
        refine oh_nrm (v := 6) (by decide) ?_
        refine lv_istore (lv' := [(5, .int 6), (4, .int (-1)), (0, .ref (a 0)), (1, .int x1), (2, .int x2), (3, .int x3)]) hx hb dX6_fewest_39 hl (by decide) rfl (fun ls hl => ?_)
        refine lv_iconst (v := 0) hx hb dX6_fewest_41 (by decide) ?_
        refine lv_istore (lv' := [(6, .int 0), (5, .int 6), (4, .int (-1)), (0, .ref (a 0)), (1, .int x1), (2, .int x2), (3, .int x3)]) hx hb dX6_fewest_42 hl (by decide) rfl (fun ls hl => ?_)
        have L_44 : ∀ (d : Nat) (K44 : Nat → va_E) (z44_6 : Int32) (z44_5 : Int32) (z44_4 : Int32) (H : Heap) (locs : List Loc) (ls : Array Slot), (32 - z44_6.toInt).toNat = d → rg z44_6 0 32 → TyX a E K44 → fr [(7, 8), (9, 10), (24, 28)] [] C K44 → fr [(9, 10), (24, 28)] [] C K44 → va_P D vwCl (oh_W 35 a K44) H → va_D A (oh_W 35 a K44) → va_S A s.heap H locs → lv_has ls 7 [(6, .int z44_6), (5, .int z44_5), (4, .int z44_4), (0, .ref (a 0)), (1, .int x1), (2, .int x2), (3, .int x3)] → W p l e ({ frames := 5, cells := 0, slots := 0, locals := 124 }) s m (([.ref (a 0), .int x1, .int x2, .int x3] : List Value).toArray) below meth c H locs 0 0 Q (F0 m 44 ls []) := by
          intro d
          induction d using Nat.strongRecOn with
          | ind d ih_44 =>
          intro K44 z44_6 z44_5 z44_4 H locs ls hd_44 hz44_6 hT hF hLF_44 hP hD hS hl
          have t_23 := hT
          refine lv_iload hx hb dX6_fewest_44 (lv_at hl 0 rfl) ?_
          refine lv_aload_n hx hb dX6_fewest_46 rfl (lv_at hl 3 rfl) ?_
          refine va_get (D := D) (ci := 6) (v := .ref (a 1)) (C := RX6) (T := TX6) (N := 9) hx hb htg ig_6 hown hK hP 0 (oh_wg (by decide) (sX_0 hT)) rfl 0 (by decide) (htg _ q_258) (fun _ h9 => h9) rfl dX6_fewest_47 ?_
          refine tq_V (As := []) (rest := [.int z44_6]) (ws := (oh_W 35 a K44)) ⟨hx, hb, hml, hown, htg⟩ (c_X0_setsOfParts l D E G a K44 hT) (cwV 0 htg (oh_gV q_699 q_700 q_701 q_67 q_702) rfl rfl rfl pdVX0_setsOfParts ⟨Nat.le_of_ble_eq_true rfl, Nat.le_of_ble_eq_true rfl⟩) hK hP hG hS (va_recv hK hP (ci := 0) (q0 := 1) rfl (oh_wg (by decide) (sX_1 hT))) rfl hl.1 rfl (Nat.le_of_ble_eq_true rfl) dX6_fewest_50 ⟨Nat.le_of_ble_eq_true rfl, Nat.le_of_ble_eq_true rfl⟩ (fun r_24 hq_25 => ?_)
          refine lv_icmp_ge (tgt := 98) hx hb dX6_fewest_53 (by decide) (fun (c_26 : r_24 ≤ z44_6) => ?_) (fun (c_26 : ¬ (r_24 ≤ z44_6)) => ?_)
          · refine lv_iload hx hb dX6_fewest_98 (lv_at hl 2 rfl) ?_
            refine lv_iconst (v := (-1)) hx hb dX6_fewest_100 (by decide) ?_
            refine lv_icmp_ne (tgt := 113) hx hb dX6_fewest_101 (by decide) (fun (c_27 : ¬ (z44_4 = (-1))) => ?_) (fun (c_27 : z44_4 = (-1)) => ?_)
            · refine lv_iload hx hb dX6_fewest_113 (lv_at hl 2 rfl) ?_
              rw [hQ]
              exact W.iret (v := z44_4) hx hb hr (fun t ht hW => ⟨⟨z44_4, K44, rfl, ⟨hT, hF, trivial⟩, ⟨by rw [ht]; exact hP, hD⟩⟩, hS.F ht⟩) hS.2.2 dX6_fewest_115
            · refine lv_aload_n hx hb dX6_fewest_104 rfl (lv_at hl 3 rfl) ?_
              refine lv_bipush (v := (-5)) hx hb dX6_fewest_105 (by decide) ?_
              refine tm_V (As := [.int (-5)]) (rest := []) ⟨hx, hb, hml, hown, htg⟩ (c_X6_refuse l D E G _ a K44 hT ((-5) : Int32)) (cwV 1 htg (oh_gV q_296 q_298 q_0 q_66 q_299) rfl rfl rfl pdVX6_refuse ⟨Nat.le_of_ble_eq_true rfl, Nat.le_of_ble_eq_true rfl⟩) hK hP hD hG hS hA (va_recv hK hP (ci := 6) (q0 := 0) rfl (oh_wg (by decide) (sX_0 hT))) rfl hl.1 rfl (Nat.le_of_ble_eq_true rfl) dX6_fewest_107 ⟨Nat.le_of_ble_eq_true rfl, Nat.le_of_ble_eq_true rfl⟩ (fun r_28 C_29 H locs hq_30 hP hD hS => ?_)
              obtain ⟨hT, f_31, hq_30⟩ := hq_30
              have hF := fr_tr hF f_31 (by decide) (by decide)
              refine W.widen (k := 0) (n := 0) (Nat.le_refl _) (Nat.le_refl _) ?_
              have t_32 := hT
              refine lv_goto (tgt := 115) hx hb dX6_fewest_110 (by decide) ?_
              rw [hQ]
              exact W.iret (v := r_28) hx hb hr (fun t ht hW => ⟨⟨r_28, C_29, rfl, ⟨hT, hF, trivial⟩, ⟨by rw [ht]; exact hP, hD⟩⟩, hS.F ht⟩) hS.2.2 dX6_fewest_115
          · refine lv_iload hx hb dX6_fewest_56 (lv_at hl 0 rfl) ?_
            refine tq_S (As := [.int z44_6]) (rest := []) (ws := []) ⟨hx, hb, hml, hown, htg⟩ (c_J6_bitCount_0f7a4 l D E G z44_6) (va_cwS 1 htg (oh_gS q_854 q_855 q_80 q_856) rfl rfl rfl pdJ6_bitCount_0f7a4 ⟨Nat.le_of_ble_eq_true rfl, Nat.le_of_ble_eq_true rfl⟩) hK va_nil hG hS rfl hl.1 rfl (Nat.le_of_ble_eq_true rfl) dX6_fewest_58 ⟨Nat.le_of_ble_eq_true rfl, Nat.le_of_ble_eq_true rfl⟩ (fun r_33 hq_34 => ?_)
            refine lv_iload hx hb dX6_fewest_61 (lv_at hl 1 rfl) ?_
            refine lv_icmp_ge (tgt := 92) hx hb dX6_fewest_63 (by decide) (fun (c_35 : z44_5 ≤ r_33) => ?_) (fun (c_35 : ¬ (z44_5 ≤ r_33)) => ?_)
            · refine lv_iinc (v := z44_6 + 1) (lv' := [(6, .int (z44_6 + 1)), (5, .int z44_5), (4, .int z44_4), (0, .ref (a 0)), (1, .int x1), (2, .int x2), (3, .int x3)]) hx hb dX6_fewest_92 hl (k := 0) rfl (by rfl) (by decide) rfl (fun ls hl => ?_)
              refine lv_goto (tgt := 44) hx hb dX6_fewest_95 (by decide) ?_
              exact ih_44 _ (hd_44 ▸ mu_up 32 (rn_ltu (u' := 31) (Int32.not_le.mp c_26) hz44_6 hq_25 (by decide)) (by decide)) K44 (z44_6 + 1) z44_5 z44_4 _ _ ls rfl (rg_w (rg_add (lo := 1) (hi := 32) (rn_ltu (u' := 31) (Int32.not_le.mp c_26) hz44_6 hq_25 (by decide)) (rg_c (v := 1) (lo := 1) (hi := 1) (by decide)) (by decide)) (by decide)) hT hF hLF_44 hP hD hS (lv_sub hl [0, 1, 2, 3, 4, 5, 6] rfl)
            · refine lv_aload_n hx hb dX6_fewest_66 rfl (lv_at hl 3 rfl) ?_
              refine va_get (D := D) (ci := 6) (v := .ref (a 3)) (C := RX6) (T := TX6) (N := 9) hx hb htg ig_6 hown hK hP 0 (oh_wg (by decide) (sX_0 hT)) rfl 3 (by decide) (htg _ q_261) (fun _ h9 => h9) rfl dX6_fewest_67 ?_
              refine lv_iload_n hx hb dX6_fewest_70 rfl (lv_at hl 4 rfl) ?_
              refine lv_iload hx hb dX6_fewest_71 (lv_at hl 0 rfl) ?_
              refine lv_iload_n hx hb dX6_fewest_73 rfl (lv_at hl 5 rfl) ?_
              refine lv_iload_n hx hb dX6_fewest_74 rfl (lv_at hl 6 rfl) ?_
              refine tm_V (As := [.int x1, .int z44_6, .int x2, .int x3]) (rest := []) ⟨hx, hb, hml, hown, htg⟩ (c_X5_hasWay l D E G _ a K44 hT x1 z44_6 x2 x3 (rg_w u_9 (by decide)) (rg_w u_18 (by decide)) (rg_w u_22 (by decide))) (cwV 4 htg (oh_gV q_881 q_882 q_883 q_68 q_884) rfl rfl rfl pdVX5_hasWay ⟨Nat.le_of_ble_eq_true rfl, Nat.le_of_ble_eq_true rfl⟩) hK hP hD hG hS hA (va_recv hK hP (ci := 5) (q0 := 3) rfl (oh_wg (by decide) (sX_3 hT))) rfl hl.1 rfl (Nat.le_of_ble_eq_true rfl) dX6_fewest_75 ⟨Nat.le_of_ble_eq_true rfl, Nat.le_of_ble_eq_true rfl⟩ (fun r_36 C_37 H locs hq_38 hP hD hS => ?_)
              obtain ⟨hT, f_39, hq_38⟩ := hq_38
              have hF := fr_tr hF f_39 (by decide) (by decide)
              refine W.widen (k := 0) (n := 0) (Nat.le_refl _) (Nat.le_refl _) ?_
              have t_40 := hT
              refine lv_if_eq (tgt := 92) hx hb dX6_fewest_78 (by decide) (fun (c_41 : r_36 = 0) => ?_) (fun (c_41 : ¬ (r_36 = 0)) => ?_)
              · refine lv_iinc (v := z44_6 + 1) (lv' := [(6, .int (z44_6 + 1)), (5, .int z44_5), (4, .int z44_4), (0, .ref (a 0)), (1, .int x1), (2, .int x2), (3, .int x3)]) hx hb dX6_fewest_92 hl (k := 0) rfl (by rfl) (by decide) rfl (fun ls hl => ?_)
                refine lv_goto (tgt := 44) hx hb dX6_fewest_95 (by decide) ?_
                exact ih_44 _ (hd_44 ▸ mu_up 32 (rn_ltu (u' := 31) (Int32.not_le.mp c_26) hz44_6 hq_25 (by decide)) (by decide)) C_37 (z44_6 + 1) z44_5 z44_4 _ _ ls rfl (rg_w (rg_add (lo := 1) (hi := 32) (rn_ltu (u' := 31) (Int32.not_le.mp c_26) hz44_6 hq_25 (by decide)) (rg_c (v := 1) (lo := 1) (hi := 1) (by decide)) (by decide)) (by decide)) hT hF (fr_tr hLF_44 f_39 (by decide) (by decide)) hP hD hS (lv_sub hl [0, 1, 2, 3, 4, 5, 6] rfl)
              · refine lv_iload hx hb dX6_fewest_81 (lv_at hl 0 rfl) ?_
                refine lv_istore (lv' := [(4, .int z44_6), (6, .int z44_6), (5, .int z44_5), (0, .ref (a 0)), (1, .int x1), (2, .int x2), (3, .int x3)]) hx hb dX6_fewest_83 hl (by decide) rfl (fun ls hl => ?_)
                refine lv_iload hx hb dX6_fewest_85 (lv_at hl 1 rfl) ?_
                refine tq_S (As := [.int z44_6]) (rest := []) (ws := []) ⟨hx, hb, hml, hown, htg⟩ (c_J6_bitCount_0f7a4 l D E G z44_6) (va_cwS 1 htg (oh_gS q_854 q_855 q_80 q_856) rfl rfl rfl pdJ6_bitCount_0f7a4 ⟨Nat.le_of_ble_eq_true rfl, Nat.le_of_ble_eq_true rfl⟩) hK va_nil hG hS rfl hl.1 rfl (Nat.le_of_ble_eq_true rfl) dX6_fewest_87 ⟨Nat.le_of_ble_eq_true rfl, Nat.le_of_ble_eq_true rfl⟩ (fun r_42 hq_43 => ?_)
                refine lv_istore (lv' := [(5, .int r_42), (4, .int z44_6), (6, .int z44_6), (0, .ref (a 0)), (1, .int x1), (2, .int x2), (3, .int x3)]) hx hb dX6_fewest_90 hl (by decide) rfl (fun ls hl => ?_)
                refine lv_iinc (v := z44_6 + 1) (lv' := [(6, .int (z44_6 + 1)), (5, .int r_42), (4, .int z44_6), (0, .ref (a 0)), (1, .int x1), (2, .int x2), (3, .int x3)]) hx hb dX6_fewest_92 hl (k := 2) rfl (by rfl) (by decide) rfl (fun ls hl => ?_)
                refine lv_goto (tgt := 44) hx hb dX6_fewest_95 (by decide) ?_
                exact ih_44 _ (hd_44 ▸ mu_up 32 (rn_ltu (u' := 31) (Int32.not_le.mp c_26) hz44_6 hq_25 (by decide)) (by decide)) C_37 (z44_6 + 1) r_42 z44_6 _ _ ls rfl (rg_w (rg_add (lo := 1) (hi := 32) (rn_ltu (u' := 31) (Int32.not_le.mp c_26) hz44_6 hq_25 (by decide)) (rg_c (v := 1) (lo := 1) (hi := 1) (by decide)) (by decide)) (by decide)) hT hF (fr_tr hLF_44 f_39 (by decide) (by decide)) hP hD hS (lv_sub hl [0, 1, 2, 3, 4, 5, 6] rfl)
        exact L_44 _ C 0 6 (-1) _ _ ls rfl (rg_w (rg_c (v := 0) (lo := 0) (hi := 0) (by decide)) (by decide)) hT hF fr_rf hP hD hS (lv_sub hl [0, 1, 2, 3, 4, 5, 6] rfl)
      · refine lv_aload_n hx hb dX6_fewest_22 rfl (lv_at hl 0 rfl) ?_
        refine lv_bipush (v := (-2)) hx hb dX6_fewest_23 (by decide) ?_
        refine tm_V (As := [.int (-2)]) (rest := []) ⟨hx, hb, hml, hown, htg⟩ (c_X6_refuse l D E G _ a C hT ((-2) : Int32)) (cwV 1 htg (oh_gV q_296 q_298 q_0 q_66 q_299) rfl rfl rfl pdVX6_refuse ⟨Nat.le_of_ble_eq_true rfl, Nat.le_of_ble_eq_true rfl⟩) hK hP hD hG hS hA (va_recv hK hP (ci := 6) (q0 := 0) rfl (oh_wg (by decide) (sX_0 hT))) rfl hl.1 rfl (Nat.le_of_ble_eq_true rfl) dX6_fewest_25 ⟨Nat.le_of_ble_eq_true rfl, Nat.le_of_ble_eq_true rfl⟩ (fun r_44 C_45 H locs hq_46 hP hD hS => ?_)
        obtain ⟨hT, f_47, hq_46⟩ := hq_46
        have hF := fr_tr hF f_47 (by decide) (by decide)
        refine W.widen (k := 0) (n := 0) (Nat.le_refl _) (Nat.le_refl _) ?_
        have t_48 := hT
        rw [hQ]
        exact W.iret (v := r_44) hx hb hr (fun t ht hW => ⟨⟨r_44, C_45, rfl, ⟨hT, hF, trivial⟩, ⟨by rw [ht]; exact hP, hD⟩⟩, hS.F ht⟩) hS.2.2 dX6_fewest_28

theorem mu_half {x : Int32} {l u : Int} (h : rg x l u) (hd : decide (1 ≤ l ∧ u ≤ 512) = true) : ((x / 2).toInt).toNat < x.toInt.toNat := by
  have h2 := of_decide_eq_true hd
  obtain ⟨a1, a2⟩ := h
  have e : (x / 2).toInt = x.toInt.tdiv 2 := by
    rw [Int32.toInt_div]
    exact oh_bmod (by show _ ≤ x.toInt.tdiv 2; rw [Int.tdiv_eq_ediv_of_nonneg (by omega)]; omega) (by show x.toInt.tdiv 2 ≤ _; rw [Int.tdiv_eq_ediv_of_nonneg (by omega)]; omega)
  rw [e, Int.tdiv_eq_ediv_of_nonneg (by omega)]
  omega
theorem rg_half {x : Int32} {l u : Int} (h : rg x l u) (hd : decide (0 ≤ l ∧ u ≤ 512) = true) : rg (x / 2) 0 512 := by
  have h2 := of_decide_eq_true hd
  obtain ⟨a1, a2⟩ := h
  have e : (x / 2).toInt = x.toInt.tdiv 2 := by
    rw [Int32.toInt_div]
    exact oh_bmod (by show _ ≤ x.toInt.tdiv 2; rw [Int.tdiv_eq_ediv_of_nonneg (by omega)]; omega) (by show x.toInt.tdiv 2 ≤ _; rw [Int.tdiv_eq_ediv_of_nonneg (by omega)]; omega)
  unfold rg
  rw [e, Int.tdiv_eq_ediv_of_nonneg (by omega)]
  omega

set_option maxHeartbeats 4000000 in
set_option maxRecDepth 100000 in
theorem c_X6_valueOfWaiting (l : Launch) (D : va_G) (E : Nat → ClassId) (G : Nat → Nat) (x1 : Int64) (x2 : Int64) (x3 : Int32) (x4 : Int32) (x5 : Int32) (hx3 : rg x3 0 6) : Met l yX6_valueOfWaiting (oh_w yX6_valueOfWaiting cX6_valueOfWaiting 14 (some .long)) ({ frames := 1, cells := 0, slots := 0, locals := 15 }) (oh_Pp D E G [.long x1, .long x2, .int x3, .int x4, .int x5] []) (vp_Sl (fun r => True)) 0 0 (fun _ => False) := by
  refine Met.ofW (cc := cX6_valueOfWaiting) (maxL := 14) (ret := (some .long)) (by decide) rfl ?_
  intro p e s m args below meth c s₁ B hml hv
  obtain ⟨rfl, hP, hK, hG⟩ := hv
  have hx := B.exec
  have hb := B.bytes
  have hr := B.returns
  have hts := atoms_spec (ws := (oh_w yX6_valueOfWaiting cX6_valueOfWaiting 14 (some .long))) B.pre
  have htg : ∀ w ∈ oh_t, w.before _ s = true := fun w h => hts w (List.mem_cons_of_mem _ h)
  have hown : s.vm.findClass RX6 = some m.cls := findClass_of_methodNamed B.named
  have hlocks := B.notSynchronized
  have hS : va_S (fun _ => False) s.heap s.heap [] := va_S.rf
  have hl := lv_entry ([.long x1, .long x2, .int x3, .int x4, .int x5]) (n := 14) (Nat.le_of_ble_eq_true rfl)
  rw [lg_entry_eq]
  generalize (lg_sl ([.long x1, .long x2, .int x3, .int x4, .int x5]) ++ List.replicate (14 - (lg_sl ([.long x1, .long x2, .int x3, .int x4, .int x5])).length) Slot.unset).toArray = ls at hl ⊢
  have hl : lv_has ls 14 [(0, .long x1), (2, .long x2), (4, .int x3), (5, .int x4), (6, .int x5)] := hl
  refine oh_genQ (fun Q hQ => ?_)
  refine lv_lload_n hx hb dX6_valueOfWaiting_0 rfl (lv_at hl 0 rfl) ?_
  refine lv_lstore (lv' := [(7, .long x1), (0, .long x1), (2, .long x2), (4, .int x3), (5, .int x4), (6, .int x5)]) hx hb dX6_valueOfWaiting_1 hl (by decide) rfl (fun ls hl => ?_)
  refine lv_lconst (v := 1) hx hb dX6_valueOfWaiting_3 (by decide) ?_
  refine lv_lstore (lv' := [(9, .long 1), (7, .long x1), (0, .long x1), (2, .long x2), (4, .int x3), (5, .int x4), (6, .int x5)]) hx hb dX6_valueOfWaiting_4 hl (by decide) rfl (fun ls hl => ?_)
  refine lv_iconst (v := 0) hx hb dX6_valueOfWaiting_6 (by decide) ?_
  refine lv_istore (lv' := [(11, .int 0), (9, .long 1), (7, .long x1), (0, .long x1), (2, .long x2), (4, .int x3), (5, .int x4), (6, .int x5)]) hx hb dX6_valueOfWaiting_7 hl (by decide) rfl (fun ls hl => ?_)
  have L_9 : ∀ (d : Nat) (z9_11 : Int32) (z9_9 : Int64) (z9_7 : Int64) (ls : Array Slot), (6 - z9_11.toInt).toNat = d → rg z9_11 0 6 → lv_has ls 14 [(11, .int z9_11), (9, .long z9_9), (7, .long z9_7), (0, .long x1), (2, .long x2), (4, .int x3), (5, .int x4), (6, .int x5)] → W p l e ({ frames := 1, cells := 0, slots := 0, locals := 15 }) s m (([.long x1, .long x2, .int x3, .int x4, .int x5] : List Value).toArray) below meth c s.heap [] 0 0 Q (F0 m 9 ls []) := by
    intro d
    induction d using Nat.strongRecOn with
    | ind d ih_9 =>
    intro z9_11 z9_9 z9_7 ls hd_9 hz9_11 hl
    refine lv_iload hx hb dX6_valueOfWaiting_9 (lv_at hl 0 rfl) ?_
    refine lv_iload hx hb dX6_valueOfWaiting_11 (lv_at hl 5 rfl) ?_
    refine lv_icmp_ge (tgt := 68) hx hb dX6_valueOfWaiting_13 (by decide) (fun (c_1 : x3 ≤ z9_11) => ?_) (fun (c_1 : ¬ (x3 ≤ z9_11)) => ?_)
    · refine lv_lload hx hb dX6_valueOfWaiting_68 (lv_at hl 2 rfl) ?_
      rw [hQ]
      exact W.lret (v := z9_7) hx hb hr (fun t ht hW => ⟨z9_7, rfl, trivial, ht⟩) (fun q h => by cases h) dX6_valueOfWaiting_70
    · refine lv_iload hx hb dX6_valueOfWaiting_16 (lv_at hl 6 rfl) ?_
      refine lv_i2l (v := Int32.toInt64 x4) hx hb dX6_valueOfWaiting_18 (by rfl) ?_
      refine lv_lload_n hx hb dX6_valueOfWaiting_19 rfl (lv_at hl 4 rfl) ?_
      refine lv_lmul hx hb dX6_valueOfWaiting_20 ?_
      refine lv_lload hx hb dX6_valueOfWaiting_21 (lv_at hl 1 rfl) ?_
      refine lv_lmul hx hb dX6_valueOfWaiting_23 ?_
      refine lv_bipush (v := 10) hx hb dX6_valueOfWaiting_24 (by decide) ?_
      refine lv_iload hx hb dX6_valueOfWaiting_26 (lv_at hl 6 rfl) ?_
      refine lv_isub hx hb dX6_valueOfWaiting_28 ?_
      refine lv_i2l (v := Int32.toInt64 (10 - x4)) hx hb dX6_valueOfWaiting_29 (by rfl) ?_
      refine lv_lload hx hb dX6_valueOfWaiting_30 (lv_at hl 2 rfl) ?_
      refine lv_lmul hx hb dX6_valueOfWaiting_32 ?_
      refine lv_ladd hx hb dX6_valueOfWaiting_33 ?_
      refine lv_lstore (lv' := [(12, .long ((((Int32.toInt64 x4) * x2) * z9_9) + ((Int32.toInt64 (10 - x4)) * z9_7))), (11, .int z9_11), (9, .long z9_9), (7, .long z9_7), (0, .long x1), (2, .long x2), (4, .int x3), (5, .int x4), (6, .int x5)]) hx hb dX6_valueOfWaiting_34 hl (by decide) rfl (fun ls hl => ?_)
      refine lv_lload hx hb dX6_valueOfWaiting_36 (lv_at hl 2 rfl) ?_
      refine lv_ldc2 (v := 10) hx hb hown (htg _ q_900) dX6_valueOfWaiting_38 ?_
      refine lv_lmul hx hb dX6_valueOfWaiting_41 ?_
      refine lv_lstore (lv' := [(9, .long (z9_9 * 10)), (12, .long ((((Int32.toInt64 x4) * x2) * z9_9) + ((Int32.toInt64 (10 - x4)) * z9_7))), (11, .int z9_11), (7, .long z9_7), (0, .long x1), (2, .long x2), (4, .int x3), (5, .int x4), (6, .int x5)]) hx hb dX6_valueOfWaiting_42 hl (by decide) rfl (fun ls hl => ?_)
      refine lv_lload_n hx hb dX6_valueOfWaiting_44 rfl (lv_at hl 4 rfl) ?_
      refine lv_lload hx hb dX6_valueOfWaiting_45 (lv_at hl 0 rfl) ?_
      refine lv_lmul hx hb dX6_valueOfWaiting_47 ?_
      refine lv_iload hx hb dX6_valueOfWaiting_48 (lv_at hl 8 rfl) ?_
      refine lv_i2l (v := Int32.toInt64 x5) hx hb dX6_valueOfWaiting_50 (by rfl) ?_
      refine lv_lload hx hb dX6_valueOfWaiting_51 (lv_at hl 0 rfl) ?_
      refine lv_lmul hx hb dX6_valueOfWaiting_53 ?_
      refine lv_lload hx hb dX6_valueOfWaiting_54 (lv_at hl 1 rfl) ?_
      refine lv_ladd hx hb dX6_valueOfWaiting_56 ?_
      refine va_mmin_long hx hb (by rw [hml]; exact hl.1.symm) hown (htg _ q_901) (htg _ q_902) (htg _ q_79) (htg _ q_903) (Nat.le_of_ble_eq_true rfl) (Nat.le_of_ble_eq_true rfl) (Nat.le_of_ble_eq_true rfl) (Nat.le_of_ble_eq_true rfl) dX6_valueOfWaiting_57 ?_
      refine lv_lstore (lv' := [(7, .long (if ((Int32.toInt64 x5) * (z9_9 * 10)) + ((((Int32.toInt64 x4) * x2) * z9_9) + ((Int32.toInt64 (10 - x4)) * z9_7)) < x1 * (z9_9 * 10) then ((Int32.toInt64 x5) * (z9_9 * 10)) + ((((Int32.toInt64 x4) * x2) * z9_9) + ((Int32.toInt64 (10 - x4)) * z9_7)) else x1 * (z9_9 * 10))), (9, .long (z9_9 * 10)), (12, .long ((((Int32.toInt64 x4) * x2) * z9_9) + ((Int32.toInt64 (10 - x4)) * z9_7))), (11, .int z9_11), (0, .long x1), (2, .long x2), (4, .int x3), (5, .int x4), (6, .int x5)]) hx hb dX6_valueOfWaiting_60 hl (by decide) rfl (fun ls hl => ?_)
      refine lv_iinc (v := z9_11 + 1) (lv' := [(11, .int (z9_11 + 1)), (7, .long (if ((Int32.toInt64 x5) * (z9_9 * 10)) + ((((Int32.toInt64 x4) * x2) * z9_9) + ((Int32.toInt64 (10 - x4)) * z9_7)) < x1 * (z9_9 * 10) then ((Int32.toInt64 x5) * (z9_9 * 10)) + ((((Int32.toInt64 x4) * x2) * z9_9) + ((Int32.toInt64 (10 - x4)) * z9_7)) else x1 * (z9_9 * 10))), (9, .long (z9_9 * 10)), (12, .long ((((Int32.toInt64 x4) * x2) * z9_9) + ((Int32.toInt64 (10 - x4)) * z9_7))), (0, .long x1), (2, .long x2), (4, .int x3), (5, .int x4), (6, .int x5)]) hx hb dX6_valueOfWaiting_62 hl (k := 3) rfl (by rfl) (by decide) rfl (fun ls hl => ?_)
      refine lv_goto (tgt := 9) hx hb dX6_valueOfWaiting_65 (by decide) ?_
      exact ih_9 _ (hd_9 ▸ mu_up 6 (rn_ltu (u' := 5) (Int32.not_le.mp c_1) hz9_11 hx3 (by decide)) (by decide)) (z9_11 + 1) (z9_9 * 10) (if ((Int32.toInt64 x5) * (z9_9 * 10)) + ((((Int32.toInt64 x4) * x2) * z9_9) + ((Int32.toInt64 (10 - x4)) * z9_7)) < x1 * (z9_9 * 10) then ((Int32.toInt64 x5) * (z9_9 * 10)) + ((((Int32.toInt64 x4) * x2) * z9_9) + ((Int32.toInt64 (10 - x4)) * z9_7)) else x1 * (z9_9 * 10)) ls rfl (rg_w (rg_add (lo := 1) (hi := 6) (rn_ltu (u' := 5) (Int32.not_le.mp c_1) hz9_11 hx3 (by decide)) (rg_c (v := 1) (lo := 1) (hi := 1) (by decide)) (by decide)) (by decide)) (lv_sub hl [0, 2, 1, 4, 5, 6, 7, 8] rfl)
  exact L_9 _ 0 1 x1 ls rfl (rg_w (rg_c (v := 0) (lo := 0) (hi := 0) (by decide)) (by decide)) (lv_sub hl [0, 1, 2, 3, 4, 5, 6, 7] rfl)

set_option maxHeartbeats 4000000 in
set_option maxRecDepth 100000 in
theorem c_X6_status (l : Launch) (D : va_G) (E : Nat → ClassId) (G : Nat → Nat) (a : Nat → Nat) (C : Nat → va_E) (hT : TyX a E C) (x1 : Int32) : Met l yX6_status (oh_w yX6_status cX6_status 2 (some .int)) ({ frames := 2, cells := 0, slots := 0, locals := 45 }) (oh_Pp D E G [.ref (a 0), .int x1] (oh_W 35 a C)) (vp_Si (fun r => True)) 0 0 (fun _ => False) := by
  refine Met.ofW (cc := cX6_status) (maxL := 2) (ret := (some .int)) (by decide) rfl ?_
  intro p e s m args below meth c s₁ B hml hv
  obtain ⟨rfl, hP, hK, hG⟩ := hv
  have hx := B.exec
  have hb := B.bytes
  have hr := B.returns
  have hts := atoms_spec (ws := (oh_w yX6_status cX6_status 2 (some .int))) B.pre
  have htg : ∀ w ∈ oh_t, w.before _ s = true := fun w h => hts w (List.mem_cons_of_mem _ h)
  have hown : s.vm.findClass RX6 = some m.cls := findClass_of_methodNamed B.named
  have hlocks := B.notSynchronized
  have hT0 := hT
  have hS : va_S (fun _ => False) s.heap s.heap [] := va_S.rf
  have hl := lv_entry ([.ref (a 0), .int x1]) (n := 2) (Nat.le_of_ble_eq_true rfl)
  rw [lg_entry_eq]
  generalize (lg_sl ([.ref (a 0), .int x1]) ++ List.replicate (2 - (lg_sl ([.ref (a 0), .int x1])).length) Slot.unset).toArray = ls at hl ⊢
  have hl : lv_has ls 2 [(0, .ref (a 0)), (1, .int x1)] := hl
  refine oh_genQ (fun Q hQ => ?_)
  refine lv_iload_n hx hb dX6_status_0 rfl (lv_at hl 1 rfl) ?_
  refine lv_iconst (v := 0) hx hb dX6_status_1 (by decide) ?_
  refine lv_iconst (v := 3) hx hb dX6_status_2 (by decide) ?_
  refine tq_S (As := [.int x1, .int 0, .int 3]) (rest := []) (ws := []) ⟨hx, hb, hml, hown, htg⟩ (c_X6_within l D E G x1 (0 : Int32) (3 : Int32)) (va_cwS 3 htg (oh_gS q_293 q_294 q_66 q_295) rfl rfl rfl pdX6_within ⟨Nat.le_of_ble_eq_true rfl, Nat.le_of_ble_eq_true rfl⟩) hK va_nil hG hS rfl hl.1 rfl (Nat.le_of_ble_eq_true rfl) dX6_status_3 ⟨Nat.le_of_ble_eq_true rfl, Nat.le_of_ble_eq_true rfl⟩ (fun r_1 hq_2 => ?_)
  refine lv_if_eq (tgt := 19) hx hb dX6_status_6 (by decide) (fun (c_3 : r_1 = 0) => ?_) (fun (c_3 : ¬ (r_1 = 0)) => ?_)
  · have u_4 := hq_2.2.2 c_3
    refine lv_iload_n hx hb dX6_status_19 rfl (lv_at hl 1 rfl) ?_
    refine lv_bipush (v := 12) hx hb dX6_status_20 (by decide) ?_
    refine lv_bipush (v := 16) hx hb dX6_status_22 (by decide) ?_
    refine tq_S (As := [.int x1, .int 12, .int 16]) (rest := []) (ws := []) ⟨hx, hb, hml, hown, htg⟩ (c_X6_within l D E G x1 (12 : Int32) (16 : Int32)) (va_cwS 3 htg (oh_gS q_293 q_294 q_66 q_295) rfl rfl rfl pdX6_within ⟨Nat.le_of_ble_eq_true rfl, Nat.le_of_ble_eq_true rfl⟩) hK va_nil hG hS rfl hl.1 rfl (Nat.le_of_ble_eq_true rfl) dX6_status_24 ⟨Nat.le_of_ble_eq_true rfl, Nat.le_of_ble_eq_true rfl⟩ (fun r_5 hq_6 => ?_)
    refine lv_if_eq (tgt := 40) hx hb dX6_status_27 (by decide) (fun (c_7 : r_5 = 0) => ?_) (fun (c_7 : ¬ (r_5 = 0)) => ?_)
    · have u_8 := hq_6.2.2 c_7
      refine lv_iload_n hx hb dX6_status_40 rfl (lv_at hl 1 rfl) ?_
      by_cases c_9 : x1 = 4
      · refine lv_tableIn (off := 31) (tgt := 72) hx hb dX6_status_41 (by rw [c_9]; decide) (by rw [c_9]; decide) (by rw [c_9]; decide) (by decide) ?_
        refine lv_aload_n hx hb dX6_status_72 rfl (lv_at hl 0 rfl) ?_
        refine va_get (D := D) (ci := 6) (v := .ref (a 5)) (C := RX6) (T := TX6) (N := 9) hx hb htg ig_6 hown hK hP 0 (oh_wg (by decide) (sX_0 hT)) rfl 5 (by decide) (htg _ q_263) (fun _ h9 => h9) rfl dX6_status_73 ?_
        refine va_get (D := D) (ci := 4) (v := .int (gi (C 5) 1)) (C := RX4) (T := TX4) (N := 6) hx hb htg ig_4 hown hK hP 5 (oh_wg (by decide) (sX_5 hT)) rfl 1 (by decide) (htg _ q_219) (fun _ h9 => h9) rfl dX6_status_76 ?_
        rw [hQ]
        exact W.iret (v := gi (C 5) 1) hx hb hr (fun t ht hW => ⟨gi (C 5) 1, rfl, trivial, ht⟩) (fun q h => by cases h) dX6_status_79
      · by_cases c_10 : x1 = 5
        · refine lv_tableIn (off := 39) (tgt := 80) hx hb dX6_status_41 (by rw [c_10]; decide) (by rw [c_10]; decide) (by rw [c_10]; decide) (by decide) ?_
          refine lv_aload_n hx hb dX6_status_80 rfl (lv_at hl 0 rfl) ?_
          refine va_get (D := D) (ci := 6) (v := .ref (a 4)) (C := RX6) (T := TX6) (N := 9) hx hb htg ig_6 hown hK hP 0 (oh_wg (by decide) (sX_0 hT)) rfl 4 (by decide) (htg _ q_262) (fun _ h9 => h9) rfl dX6_status_81 ?_
          refine tq_V (As := []) (rest := []) (ws := (oh_W 35 a C)) ⟨hx, hb, hml, hown, htg⟩ (c_X3_countHeld l D E G a C hT) (cwV 0 htg (oh_gV q_955 q_956 q_957 q_70 q_958) rfl rfl rfl pdVX3_countHeld ⟨Nat.le_of_ble_eq_true rfl, Nat.le_of_ble_eq_true rfl⟩) hK hP hG hS (va_recv hK hP (ci := 3) (q0 := 4) rfl (oh_wg (by decide) (sX_4 hT))) rfl hl.1 rfl (Nat.le_of_ble_eq_true rfl) dX6_status_84 ⟨Nat.le_of_ble_eq_true rfl, Nat.le_of_ble_eq_true rfl⟩ (fun r_11 hq_12 => ?_)
          rw [hQ]
          exact W.iret (v := r_11) hx hb hr (fun t ht hW => ⟨r_11, rfl, trivial, ht⟩) (fun q h => by cases h) dX6_status_87
        · by_cases c_13 : x1 = 6
          · refine lv_tableIn (off := 47) (tgt := 88) hx hb dX6_status_41 (by rw [c_13]; decide) (by rw [c_13]; decide) (by rw [c_13]; decide) (by decide) ?_
            refine lv_aload_n hx hb dX6_status_88 rfl (lv_at hl 0 rfl) ?_
            refine va_get (D := D) (ci := 6) (v := .ref (a 1)) (C := RX6) (T := TX6) (N := 9) hx hb htg ig_6 hown hK hP 0 (oh_wg (by decide) (sX_0 hT)) rfl 0 (by decide) (htg _ q_258) (fun _ h9 => h9) rfl dX6_status_89 ?_
            refine lv_bipush (v := 7) hx hb dX6_status_92 (by decide) ?_
            refine tq_V (As := [.int 7]) (rest := []) (ws := (oh_W 35 a C)) ⟨hx, hb, hml, hown, htg⟩ (c_X0_countBridges l D E G a C hT (7 : Int32) (rg_w (rg_c (v := 7) (lo := 7) (hi := 7) (by decide)) (by decide))) (cwV 1 htg (oh_gV q_959 q_960 q_961 q_67 q_962) rfl rfl rfl pdVX0_countBridges ⟨Nat.le_of_ble_eq_true rfl, Nat.le_of_ble_eq_true rfl⟩) hK hP hG hS (va_recv hK hP (ci := 0) (q0 := 1) rfl (oh_wg (by decide) (sX_1 hT))) rfl hl.1 rfl (Nat.le_of_ble_eq_true rfl) dX6_status_94 ⟨Nat.le_of_ble_eq_true rfl, Nat.le_of_ble_eq_true rfl⟩ (fun r_14 hq_15 => ?_)
            rw [hQ]
            exact W.iret (v := r_14) hx hb hr (fun t ht hW => ⟨r_14, rfl, trivial, ht⟩) (fun q h => by cases h) dX6_status_97
          · by_cases c_16 : x1 = 7
            · refine lv_tableIn (off := 57) (tgt := 98) hx hb dX6_status_41 (by rw [c_16]; decide) (by rw [c_16]; decide) (by rw [c_16]; decide) (by decide) ?_
              refine lv_aload_n hx hb dX6_status_98 rfl (lv_at hl 0 rfl) ?_
              refine va_get (D := D) (ci := 6) (v := .ref (a 1)) (C := RX6) (T := TX6) (N := 9) hx hb htg ig_6 hown hK hP 0 (oh_wg (by decide) (sX_0 hT)) rfl 0 (by decide) (htg _ q_258) (fun _ h9 => h9) rfl dX6_status_99 ?_
              refine lv_bipush (v := 8) hx hb dX6_status_102 (by decide) ?_
              refine tq_V (As := [.int 8]) (rest := []) (ws := (oh_W 35 a C)) ⟨hx, hb, hml, hown, htg⟩ (c_X0_countBridges l D E G a C hT (8 : Int32) (rg_w (rg_c (v := 8) (lo := 8) (hi := 8) (by decide)) (by decide))) (cwV 1 htg (oh_gV q_959 q_960 q_961 q_67 q_962) rfl rfl rfl pdVX0_countBridges ⟨Nat.le_of_ble_eq_true rfl, Nat.le_of_ble_eq_true rfl⟩) hK hP hG hS (va_recv hK hP (ci := 0) (q0 := 1) rfl (oh_wg (by decide) (sX_1 hT))) rfl hl.1 rfl (Nat.le_of_ble_eq_true rfl) dX6_status_104 ⟨Nat.le_of_ble_eq_true rfl, Nat.le_of_ble_eq_true rfl⟩ (fun r_17 hq_18 => ?_)
              rw [hQ]
              exact W.iret (v := r_17) hx hb hr (fun t ht hW => ⟨r_17, rfl, trivial, ht⟩) (fun q h => by cases h) dX6_status_107
            · refine lv_tableOut (tgt := 108) hx hb dX6_status_41 (by have h9 := And.intro (oh_ne c_9 (k := 4) (by decide)) (And.intro (oh_ne c_10 (k := 5) (by decide)) (And.intro (oh_ne c_13 (k := 6) (by decide)) (And.intro (oh_ne c_16 (k := 7) (by decide)) trivial))); omega) (by decide) ?_
              refine lv_iconst (v := (-1)) hx hb dX6_status_108 (by decide) ?_
              rw [hQ]
              exact W.iret (v := (-1)) hx hb hr (fun t ht hW => ⟨(-1), rfl, trivial, ht⟩) (fun q h => by cases h) dX6_status_109
    · have u_19 := hq_6.2.1 c_7
      refine lv_aload_n hx hb dX6_status_30 rfl (lv_at hl 0 rfl) ?_
      refine va_get (D := D) (ci := 6) (v := .ref (a 7)) (C := RX6) (T := TX6) (N := 9) hx hb htg ig_6 hown hK hP 0 (oh_wg (by decide) (sX_0 hT)) rfl 7 (by decide) (htg _ q_265) (fun _ h9 => h9) rfl dX6_status_31 ?_
      refine lv_iload_n hx hb dX6_status_34 rfl (lv_at hl 1 rfl) ?_
      refine lv_bipush (v := 12) hx hb dX6_status_35 (by decide) ?_
      refine lv_isub hx hb dX6_status_37 ?_
      have n_20 : vp_in (x1 - 12) 5 := (rg_in (rg_sub (lo := 0) (hi := 4) (rn_leu u_19.2 (rn_lel u_19.1 (rg_c (v := 12) (lo := 12) (hi := 12) (by decide)) (rg_any _)) (rg_c (v := 16) (lo := 16) (hi := 16) (by decide))) (rg_c (v := 12) (lo := 12) (hi := 12) (by decide)) (by decide)) (by decide))
      refine th_iald hx hb hK hP 7 (by decide) (sX_7 hT) n_20 dX6_status_38 ?_
      rw [hQ]
      exact W.iret (v := ga (C 7) (x1 - 12).toNatClampNeg) hx hb hr (fun t ht hW => ⟨ga (C 7) (x1 - 12).toNatClampNeg, rfl, trivial, ht⟩) (fun q h => by cases h) dX6_status_39
  · have u_21 := hq_2.2.1 c_3
    refine lv_aload_n hx hb dX6_status_9 rfl (lv_at hl 0 rfl) ?_
    refine va_get (D := D) (ci := 6) (v := .ref (a 1)) (C := RX6) (T := TX6) (N := 9) hx hb htg ig_6 hown hK hP 0 (oh_wg (by decide) (sX_0 hT)) rfl 0 (by decide) (htg _ q_258) (fun _ h9 => h9) rfl dX6_status_10 ?_
    refine va_get (D := D) (ci := 0) (v := .ref (a 10)) (C := RX0) (T := TX0) (N := 8) hx hb htg ig_0 hown hK hP 1 (oh_wg (by decide) (sX_1 hT)) rfl 0 (by decide) (htg _ q_100) (fun _ h9 => h9) rfl dX6_status_13 ?_
    refine lv_iload_n hx hb dX6_status_16 rfl (lv_at hl 1 rfl) ?_
    have n_22 : vp_in x1 4 := (rg_in (rn_leu u_21.2 (rn_lel u_21.1 (rg_c (v := 0) (lo := 0) (hi := 0) (by decide)) (rg_any _)) (rg_c (v := 3) (lo := 3) (hi := 3) (by decide))) (by decide))
    refine th_iald hx hb hK hP 10 (by decide) (sX_10 hT) n_22 dX6_status_17 ?_
    rw [hQ]
    exact W.iret (v := ga (C 10) (x1).toNatClampNeg) hx hb hr (fun t ht hW => ⟨ga (C 10) (x1).toNatClampNeg, rfl, trivial, ht⟩) (fun q h => by cases h) dX6_status_18
theorem bg_dJ0_charAt_5068e_0 : bysAt cJ0_charAt_5068e 0 [42, 182, 1, 236, 153, 0, 12, 42, 180, 0, 9, 27, 184, 1, 239, 172] := bysAt_of (by decide +kernel)
theorem dJ0_charAt_5068e_0 : decode cJ0_charAt_5068e 0 = .ok (.aload_n 0, 1) := o_42 (bg_dJ0_charAt_5068e_0 0 42 rfl)
theorem dJ0_charAt_5068e_1 : decode cJ0_charAt_5068e 1 = .ok (.invokevirtual 492, 3) := o_182 (bg_dJ0_charAt_5068e_0 1 182 rfl) (bg_dJ0_charAt_5068e_0 2 1 rfl) (bg_dJ0_charAt_5068e_0 3 236 rfl)
theorem dJ0_charAt_5068e_4 : decode cJ0_charAt_5068e 4 = .ok (.ifCond .eq 12, 3) := o_153 (bg_dJ0_charAt_5068e_0 4 153 rfl) (bg_dJ0_charAt_5068e_0 5 0 rfl) (bg_dJ0_charAt_5068e_0 6 12 rfl) (by decide +kernel)
theorem dJ0_charAt_5068e_7 : decode cJ0_charAt_5068e 7 = .ok (.aload_n 0, 1) := o_42 (bg_dJ0_charAt_5068e_0 7 42 rfl)
theorem dJ0_charAt_5068e_8 : decode cJ0_charAt_5068e 8 = .ok (.getfield 9, 3) := o_180 (bg_dJ0_charAt_5068e_0 8 180 rfl) (bg_dJ0_charAt_5068e_0 9 0 rfl) (bg_dJ0_charAt_5068e_0 10 9 rfl)
theorem dJ0_charAt_5068e_11 : decode cJ0_charAt_5068e 11 = .ok (.iload_n 1, 1) := o_27 (bg_dJ0_charAt_5068e_0 11 27 rfl)
theorem dJ0_charAt_5068e_12 : decode cJ0_charAt_5068e 12 = .ok (.invokestatic 495, 3) := o_184 (bg_dJ0_charAt_5068e_0 12 184 rfl) (bg_dJ0_charAt_5068e_0 13 1 rfl) (bg_dJ0_charAt_5068e_0 14 239 rfl)
theorem dJ0_charAt_5068e_15 : decode cJ0_charAt_5068e 15 = .ok (.ireturn, 1) := o_172 (bg_dJ0_charAt_5068e_0 15 172 rfl)
theorem bg_dJ0_checkIndex_df160_0 : bysAt cJ0_checkIndex_df160 0 [26, 27, 178, 4, 29, 184, 4, 35, 87, 177] := bysAt_of (by decide +kernel)
theorem dJ0_checkIndex_df160_0 : decode cJ0_checkIndex_df160 0 = .ok (.iload_n 0, 1) := o_26 (bg_dJ0_checkIndex_df160_0 0 26 rfl)
theorem dJ0_checkIndex_df160_1 : decode cJ0_checkIndex_df160 1 = .ok (.iload_n 1, 1) := o_27 (bg_dJ0_checkIndex_df160_0 1 27 rfl)
theorem dJ0_checkIndex_df160_2 : decode cJ0_checkIndex_df160 2 = .ok (.getstatic 1053, 3) := o_178 (bg_dJ0_checkIndex_df160_0 2 178 rfl) (bg_dJ0_checkIndex_df160_0 3 4 rfl) (bg_dJ0_checkIndex_df160_0 4 29 rfl)
theorem dJ0_checkIndex_df160_5 : decode cJ0_checkIndex_df160 5 = .ok (.invokestatic 1059, 3) := o_184 (bg_dJ0_checkIndex_df160_0 5 184 rfl) (bg_dJ0_checkIndex_df160_0 6 4 rfl) (bg_dJ0_checkIndex_df160_0 7 35 rfl)
theorem dJ0_checkIndex_df160_8 : decode cJ0_checkIndex_df160 8 = .ok (.pop, 1) := o_87 (bg_dJ0_checkIndex_df160_0 8 87 rfl)
theorem dJ0_checkIndex_df160_9 : decode cJ0_checkIndex_df160 9 = .ok (.return_, 1) := o_177 (bg_dJ0_checkIndex_df160_0 9 177 rfl)
theorem bg_dJ0_coder_7d493_0 : bysAt cJ0_coder_7d493 0 [178, 0, 38, 153, 0, 10, 42, 180, 0, 15, 167, 0, 4, 4, 172] := bysAt_of (by decide +kernel)
theorem dJ0_coder_7d493_0 : decode cJ0_coder_7d493 0 = .ok (.getstatic 38, 3) := o_178 (bg_dJ0_coder_7d493_0 0 178 rfl) (bg_dJ0_coder_7d493_0 1 0 rfl) (bg_dJ0_coder_7d493_0 2 38 rfl)
theorem dJ0_coder_7d493_3 : decode cJ0_coder_7d493 3 = .ok (.ifCond .eq 10, 3) := o_153 (bg_dJ0_coder_7d493_0 3 153 rfl) (bg_dJ0_coder_7d493_0 4 0 rfl) (bg_dJ0_coder_7d493_0 5 10 rfl) (by decide +kernel)
theorem dJ0_coder_7d493_6 : decode cJ0_coder_7d493 6 = .ok (.aload_n 0, 1) := o_42 (bg_dJ0_coder_7d493_0 6 42 rfl)
theorem dJ0_coder_7d493_7 : decode cJ0_coder_7d493 7 = .ok (.getfield 15, 3) := o_180 (bg_dJ0_coder_7d493_0 7 180 rfl) (bg_dJ0_coder_7d493_0 8 0 rfl) (bg_dJ0_coder_7d493_0 9 15 rfl)
theorem dJ0_coder_7d493_10 : decode cJ0_coder_7d493 10 = .ok (.goto 4, 3) := o_167 (bg_dJ0_coder_7d493_0 10 167 rfl) (bg_dJ0_coder_7d493_0 11 0 rfl) (bg_dJ0_coder_7d493_0 12 4 rfl) (by decide +kernel)
theorem dJ0_coder_7d493_14 : decode cJ0_coder_7d493 14 = .ok (.ireturn, 1) := o_172 (bg_dJ0_coder_7d493_0 14 172 rfl)
theorem bg_dJ0_isLatin1_aae02_0 : bysAt cJ0_isLatin1_aae02 0 [178, 0, 38, 153, 0, 14, 42, 180, 0, 15, 154, 0, 7, 4, 167, 0, 4, 3, 172] := bysAt_of (by decide +kernel)
theorem dJ0_isLatin1_aae02_0 : decode cJ0_isLatin1_aae02 0 = .ok (.getstatic 38, 3) := o_178 (bg_dJ0_isLatin1_aae02_0 0 178 rfl) (bg_dJ0_isLatin1_aae02_0 1 0 rfl) (bg_dJ0_isLatin1_aae02_0 2 38 rfl)
theorem dJ0_isLatin1_aae02_3 : decode cJ0_isLatin1_aae02 3 = .ok (.ifCond .eq 14, 3) := o_153 (bg_dJ0_isLatin1_aae02_0 3 153 rfl) (bg_dJ0_isLatin1_aae02_0 4 0 rfl) (bg_dJ0_isLatin1_aae02_0 5 14 rfl) (by decide +kernel)
theorem dJ0_isLatin1_aae02_6 : decode cJ0_isLatin1_aae02 6 = .ok (.aload_n 0, 1) := o_42 (bg_dJ0_isLatin1_aae02_0 6 42 rfl)
theorem dJ0_isLatin1_aae02_7 : decode cJ0_isLatin1_aae02 7 = .ok (.getfield 15, 3) := o_180 (bg_dJ0_isLatin1_aae02_0 7 180 rfl) (bg_dJ0_isLatin1_aae02_0 8 0 rfl) (bg_dJ0_isLatin1_aae02_0 9 15 rfl)
theorem dJ0_isLatin1_aae02_10 : decode cJ0_isLatin1_aae02 10 = .ok (.ifCond .ne 7, 3) := o_154 (bg_dJ0_isLatin1_aae02_0 10 154 rfl) (bg_dJ0_isLatin1_aae02_0 11 0 rfl) (bg_dJ0_isLatin1_aae02_0 12 7 rfl) (by decide +kernel)
theorem dJ0_isLatin1_aae02_13 : decode cJ0_isLatin1_aae02 13 = .ok (.iconst 1, 1) := o_4 (bg_dJ0_isLatin1_aae02_0 13 4 rfl)
theorem dJ0_isLatin1_aae02_14 : decode cJ0_isLatin1_aae02 14 = .ok (.goto 4, 3) := o_167 (bg_dJ0_isLatin1_aae02_0 14 167 rfl) (bg_dJ0_isLatin1_aae02_0 15 0 rfl) (bg_dJ0_isLatin1_aae02_0 16 4 rfl) (by decide +kernel)
theorem dJ0_isLatin1_aae02_18 : decode cJ0_isLatin1_aae02 18 = .ok (.ireturn, 1) := o_172 (bg_dJ0_isLatin1_aae02_0 18 172 rfl)
theorem bg_dJ0_length_8abf5_0 : bysAt cJ0_length_8abf5 0 [42, 180, 0, 9, 190, 42, 182, 1, 79, 122, 172] := bysAt_of (by decide +kernel)
theorem dJ0_length_8abf5_0 : decode cJ0_length_8abf5 0 = .ok (.aload_n 0, 1) := o_42 (bg_dJ0_length_8abf5_0 0 42 rfl)
theorem dJ0_length_8abf5_1 : decode cJ0_length_8abf5 1 = .ok (.getfield 9, 3) := o_180 (bg_dJ0_length_8abf5_0 1 180 rfl) (bg_dJ0_length_8abf5_0 2 0 rfl) (bg_dJ0_length_8abf5_0 3 9 rfl)
theorem dJ0_length_8abf5_4 : decode cJ0_length_8abf5 4 = .ok (.arraylength, 1) := o_190 (bg_dJ0_length_8abf5_0 4 190 rfl)
theorem dJ0_length_8abf5_5 : decode cJ0_length_8abf5 5 = .ok (.aload_n 0, 1) := o_42 (bg_dJ0_length_8abf5_0 5 42 rfl)
theorem dJ0_length_8abf5_6 : decode cJ0_length_8abf5 6 = .ok (.invokevirtual 335, 3) := o_182 (bg_dJ0_length_8abf5_0 6 182 rfl) (bg_dJ0_length_8abf5_0 7 1 rfl) (bg_dJ0_length_8abf5_0 8 79 rfl)
theorem dJ0_length_8abf5_9 : decode cJ0_length_8abf5 9 = .ok (.ishr, 1) := o_122 (bg_dJ0_length_8abf5_0 9 122 rfl)
theorem dJ0_length_8abf5_10 : decode cJ0_length_8abf5 10 = .ok (.ireturn, 1) := o_172 (bg_dJ0_length_8abf5_0 10 172 rfl)
theorem bg_dJ1_charAt_3b067_0 : bysAt cJ1_charAt_3b067 0 [27, 42, 190, 184, 0, 9, 42, 27, 51, 17, 0, 255, 126, 146, 172] := bysAt_of (by decide +kernel)
theorem dJ1_charAt_3b067_0 : decode cJ1_charAt_3b067 0 = .ok (.iload_n 1, 1) := o_27 (bg_dJ1_charAt_3b067_0 0 27 rfl)
theorem dJ1_charAt_3b067_1 : decode cJ1_charAt_3b067 1 = .ok (.aload_n 0, 1) := o_42 (bg_dJ1_charAt_3b067_0 1 42 rfl)
theorem dJ1_charAt_3b067_2 : decode cJ1_charAt_3b067 2 = .ok (.arraylength, 1) := o_190 (bg_dJ1_charAt_3b067_0 2 190 rfl)
theorem dJ1_charAt_3b067_3 : decode cJ1_charAt_3b067 3 = .ok (.invokestatic 9, 3) := o_184 (bg_dJ1_charAt_3b067_0 3 184 rfl) (bg_dJ1_charAt_3b067_0 4 0 rfl) (bg_dJ1_charAt_3b067_0 5 9 rfl)
theorem dJ1_charAt_3b067_6 : decode cJ1_charAt_3b067 6 = .ok (.aload_n 0, 1) := o_42 (bg_dJ1_charAt_3b067_0 6 42 rfl)
theorem dJ1_charAt_3b067_7 : decode cJ1_charAt_3b067 7 = .ok (.iload_n 1, 1) := o_27 (bg_dJ1_charAt_3b067_0 7 27 rfl)
theorem dJ1_charAt_3b067_8 : decode cJ1_charAt_3b067 8 = .ok (.baload, 1) := o_51 (bg_dJ1_charAt_3b067_0 8 51 rfl)
theorem dJ1_charAt_3b067_9 : decode cJ1_charAt_3b067 9 = .ok (.sipush 255, 3) := o_17 (bg_dJ1_charAt_3b067_0 9 17 rfl) (bg_dJ1_charAt_3b067_0 10 0 rfl) (bg_dJ1_charAt_3b067_0 11 255 rfl) (by decide +kernel)
theorem dJ1_charAt_3b067_12 : decode cJ1_charAt_3b067 12 = .ok (.iand, 1) := o_126 (bg_dJ1_charAt_3b067_0 12 126 rfl)
theorem dJ1_charAt_3b067_13 : decode cJ1_charAt_3b067 13 = .ok (.i2c, 1) := o_146 (bg_dJ1_charAt_3b067_0 13 146 rfl)
theorem dJ1_charAt_3b067_14 : decode cJ1_charAt_3b067 14 = .ok (.ireturn, 1) := o_172 (bg_dJ1_charAt_3b067_0 14 172 rfl)
theorem bg_dJ3_checkIndex_8e157_0 : bysAt cJ3_checkIndex_8e157 0 [26, 155, 0, 8, 26, 27, 161, 0, 10, 44, 26, 27, 184, 0, 95, 191, 26, 172] := bysAt_of (by decide +kernel)
theorem dJ3_checkIndex_8e157_0 : decode cJ3_checkIndex_8e157 0 = .ok (.iload_n 0, 1) := o_26 (bg_dJ3_checkIndex_8e157_0 0 26 rfl)
theorem dJ3_checkIndex_8e157_1 : decode cJ3_checkIndex_8e157 1 = .ok (.ifCond .lt 8, 3) := o_155 (bg_dJ3_checkIndex_8e157_0 1 155 rfl) (bg_dJ3_checkIndex_8e157_0 2 0 rfl) (bg_dJ3_checkIndex_8e157_0 3 8 rfl) (by decide +kernel)
theorem dJ3_checkIndex_8e157_4 : decode cJ3_checkIndex_8e157 4 = .ok (.iload_n 0, 1) := o_26 (bg_dJ3_checkIndex_8e157_0 4 26 rfl)
theorem dJ3_checkIndex_8e157_5 : decode cJ3_checkIndex_8e157 5 = .ok (.iload_n 1, 1) := o_27 (bg_dJ3_checkIndex_8e157_0 5 27 rfl)
theorem dJ3_checkIndex_8e157_6 : decode cJ3_checkIndex_8e157 6 = .ok (.if_icmp .lt 10, 3) := o_161 (bg_dJ3_checkIndex_8e157_0 6 161 rfl) (bg_dJ3_checkIndex_8e157_0 7 0 rfl) (bg_dJ3_checkIndex_8e157_0 8 10 rfl) (by decide +kernel)
theorem dJ3_checkIndex_8e157_16 : decode cJ3_checkIndex_8e157 16 = .ok (.iload_n 0, 1) := o_26 (bg_dJ3_checkIndex_8e157_0 16 26 rfl)
theorem dJ3_checkIndex_8e157_17 : decode cJ3_checkIndex_8e157 17 = .ok (.ireturn, 1) := o_172 (bg_dJ3_checkIndex_8e157_0 17 172 rfl)
theorem pdJ0_checkIndex_df160 : yJ0_checkIndex_df160.cls ≠ "java/lang/invoke/MethodHandle" ∧ yJ0_checkIndex_df160.cls ≠ "java/lang/invoke/VarHandle" ∧ (parseMethodDescriptor yJ0_checkIndex_df160.desc).map (fun d => d.parameters.length) = some 2 := by decide +kernel
theorem pdVJ0_coder_7d493 : yJ0_coder_7d493.cls = RJ0 ∧ yJ0_coder_7d493.cls ≠ "java/lang/invoke/MethodHandle" ∧ yJ0_coder_7d493.cls ≠ "java/lang/invoke/VarHandle" ∧ (parseMethodDescriptor yJ0_coder_7d493.desc).map (fun d => d.parameters.length) = some 0 := by decide +kernel
theorem pdVJ0_isLatin1_aae02 : yJ0_isLatin1_aae02.cls = RJ0 ∧ yJ0_isLatin1_aae02.cls ≠ "java/lang/invoke/MethodHandle" ∧ yJ0_isLatin1_aae02.cls ≠ "java/lang/invoke/VarHandle" ∧ (parseMethodDescriptor yJ0_isLatin1_aae02.desc).map (fun d => d.parameters.length) = some 0 := by decide +kernel
theorem pdJ1_charAt_3b067 : yJ1_charAt_3b067.cls ≠ "java/lang/invoke/MethodHandle" ∧ yJ1_charAt_3b067.cls ≠ "java/lang/invoke/VarHandle" ∧ (parseMethodDescriptor yJ1_charAt_3b067.desc).map (fun d => d.parameters.length) = some 2 := by decide +kernel
theorem pdJ3_checkIndex_8e157 : yJ3_checkIndex_8e157.cls ≠ "java/lang/invoke/MethodHandle" ∧ yJ3_checkIndex_8e157.cls ≠ "java/lang/invoke/VarHandle" ∧ (parseMethodDescriptor yJ3_checkIndex_8e157.desc).map (fun d => d.parameters.length) = some 3 := by decide +kernel
theorem oh_lenr0 : ∀ j : Nat, j < 34 → (3 ≤ (Int32.ofNat (oh_len j)).toInt ∧ (Int32.ofNat (oh_len j)).toInt ≤ 6) := by decide
theorem oh_lenr {j : Nat} (h : j < 34) : rg (Int32.ofNat (oh_len j)) 3 6 := oh_lenr0 j h
theorem oh_lenn0 : ∀ j : Nat, j < 34 → (Int32.ofNat (oh_len j)).toInt = (oh_len j : Int) := by decide
theorem oh_shr0 (x : Int32) : x >>> ((0 : Int32) &&& 31) = x := by
  rw [show ((0 : Int32) &&& 31) = 0 by decide]
  exact Int32.shiftRight_zero
theorem oh_chr0 : ∀ j : Nat, j < 34 → ∀ i : Nat, i < 6 → ((oh_byt j i &&& 255).toUInt32 % 65536).toInt32 = oh_byt j i ∧ narrow .char (.int (((oh_byt j i &&& 255).toUInt32 % 65536).toInt32)) = .int (((oh_byt j i &&& 255).toUInt32 % 65536).toInt32) := by decide +kernel
theorem oh_chin {j : Nat} (hj : j < 34) {x : Int32} (h1 : ¬ x < 0) (h2 : x < Int32.ofNat (oh_len j)) : vp_in x (oh_len j) := by
  have a := Int32.lt_iff_toInt_lt.mp h2
  rw [oh_lenn0 j hj] at a
  have b := Int32.le_iff_toInt_le.mp (Int32.not_lt.mp h1)
  exact vp_in_iff.mpr ⟨b, a⟩
theorem oh_chr {j : Nat} (hj : j < 34) {x : Int32} (h1 : ¬ x < 0) (h2 : x < Int32.ofNat (oh_len j)) : ((oh_byt j x.toNatClampNeg &&& 255).toUInt32 % 65536).toInt32 = oh_byt j x.toNatClampNeg ∧ narrow .char (.int (((oh_byt j x.toNatClampNeg &&& 255).toUInt32 % 65536).toInt32)) = .int (((oh_byt j x.toNatClampNeg &&& 255).toUInt32 % 65536).toInt32) := by
  refine oh_chr0 j hj _ ?_
  have a := Int32.lt_iff_toInt_lt.mp h2
  have b := (oh_lenr hj).2
  show x.toInt.toNat < 6
  omega
theorem oh_nfl {x : Int32} (h : rg x 0 250) : ¬ x = -1 := by
  intro e
  subst e
  exact absurd h.1 (by decide)

set_option maxHeartbeats 4000000 in
set_option maxRecDepth 100000 in
theorem c_J0_coder_7d493 (l : Launch) (D : va_G) (E : Nat → ClassId) (G : Nat → Nat) (j : Nat) (hj : j < 34) : Met l yJ0_coder_7d493 (oh_w yJ0_coder_7d493 cJ0_coder_7d493 1 (some .byte)) ({ frames := 0, cells := 0, slots := 0, locals := 0 }) (oh_Pp D E G [.ref (G (3 + j))] []) (vp_Si (fun r => r = 0)) 0 0 (fun _ => False) := by
  refine Met.ofW (cc := cJ0_coder_7d493) (maxL := 1) (ret := (some .byte)) (by decide) rfl ?_
  intro p e s m args below meth c s₁ B hml hv
  obtain ⟨rfl, hP, hK, hG⟩ := hv
  have hx := B.exec
  have hb := B.bytes
  have hr := B.returns
  have hts := atoms_spec (ws := (oh_w yJ0_coder_7d493 cJ0_coder_7d493 1 (some .byte))) B.pre
  have htg : ∀ w ∈ oh_t, w.before _ s = true := fun w h => hts w (List.mem_cons_of_mem _ h)
  have hown : s.vm.findClass RJ0 = some m.cls := findClass_of_methodNamed B.named
  have hlocks := B.notSynchronized
  have hS : va_S (fun _ => False) s.heap s.heap [] := va_S.rf
  have hl := lv_entry ([.ref (G (3 + j))]) (n := 1) (Nat.le_of_ble_eq_true rfl)
  rw [lg_entry_eq]
  generalize (lg_sl ([.ref (G (3 + j))]) ++ List.replicate (1 - (lg_sl ([.ref (G (3 + j))])).length) Slot.unset).toArray = ls at hl ⊢
  have hl : lv_has ls 1 [(0, .ref (G (3 + j)))] := hl
  refine oh_genQ (fun Q hQ => ?_)
  refine va_gets hx hb hG.2.2.2.2.2.2.2.2.1 hS hown (htg _ q_529) (fun _ h9 => h9) dJ0_coder_7d493_0 ?_
  refine lv_if_eq (tgt := 13) hx hb dJ0_coder_7d493_3 (by decide) (fun c => absurd c (show ¬ ((1 : Int32) = 0) from by decide)) (fun _ => ?_)
  refine lv_aload_n hx hb dJ0_coder_7d493_6 rfl (lv_at hl 0 rfl) ?_
  refine vk_getf (v := .int 0) hx hb (hG.2.2.2.2.2.2.2.2.2.2 j hj).2.1 hS hown (htg _ q_1448) (fun _ h9 => h9) dJ0_coder_7d493_7 ?_
  refine lv_goto (tgt := 14) hx hb dJ0_coder_7d493_10 (by decide) ?_
  rw [hQ]
  exact W.zret (v := 0) (ty := .byte) hx hb hr (by decide) (fun t ht hW => ⟨0, rfl, rfl, ht⟩) (fun q h => by cases h) dJ0_coder_7d493_14

set_option maxHeartbeats 4000000 in
set_option maxRecDepth 100000 in
theorem c_J0_isLatin1_aae02 (l : Launch) (D : va_G) (E : Nat → ClassId) (G : Nat → Nat) (j : Nat) (hj : j < 34) : Met l yJ0_isLatin1_aae02 (oh_w yJ0_isLatin1_aae02 cJ0_isLatin1_aae02 1 (some .boolean)) ({ frames := 0, cells := 0, slots := 0, locals := 0 }) (oh_Pp D E G [.ref (G (3 + j))] []) (vp_Si (fun r => r = 1)) 0 0 (fun _ => False) := by
  refine Met.ofW (cc := cJ0_isLatin1_aae02) (maxL := 1) (ret := (some .boolean)) (by decide) rfl ?_
  intro p e s m args below meth c s₁ B hml hv
  obtain ⟨rfl, hP, hK, hG⟩ := hv
  have hx := B.exec
  have hb := B.bytes
  have hr := B.returns
  have hts := atoms_spec (ws := (oh_w yJ0_isLatin1_aae02 cJ0_isLatin1_aae02 1 (some .boolean))) B.pre
  have htg : ∀ w ∈ oh_t, w.before _ s = true := fun w h => hts w (List.mem_cons_of_mem _ h)
  have hown : s.vm.findClass RJ0 = some m.cls := findClass_of_methodNamed B.named
  have hlocks := B.notSynchronized
  have hS : va_S (fun _ => False) s.heap s.heap [] := va_S.rf
  have hl := lv_entry ([.ref (G (3 + j))]) (n := 1) (Nat.le_of_ble_eq_true rfl)
  rw [lg_entry_eq]
  generalize (lg_sl ([.ref (G (3 + j))]) ++ List.replicate (1 - (lg_sl ([.ref (G (3 + j))])).length) Slot.unset).toArray = ls at hl ⊢
  have hl : lv_has ls 1 [(0, .ref (G (3 + j)))] := hl
  refine oh_genQ (fun Q hQ => ?_)
  refine va_gets hx hb hG.2.2.2.2.2.2.2.2.1 hS hown (htg _ q_529) (fun _ h9 => h9) dJ0_isLatin1_aae02_0 ?_
  refine lv_if_eq (tgt := 17) hx hb dJ0_isLatin1_aae02_3 (by decide) (fun c => absurd c (show ¬ ((1 : Int32) = 0) from by decide)) (fun _ => ?_)
  refine lv_aload_n hx hb dJ0_isLatin1_aae02_6 rfl (lv_at hl 0 rfl) ?_
  refine vk_getf (v := .int 0) hx hb (hG.2.2.2.2.2.2.2.2.2.2 j hj).2.1 hS hown (htg _ q_1448) (fun _ h9 => h9) dJ0_isLatin1_aae02_7 ?_
  refine lv_if_ne (tgt := 17) hx hb dJ0_isLatin1_aae02_10 (by decide) (fun c => absurd (show (0 : Int32) = 0 from by decide) c) (fun _ => ?_)
  refine lv_iconst (v := 1) hx hb dJ0_isLatin1_aae02_13 (by decide) ?_
  refine lv_goto (tgt := 18) hx hb dJ0_isLatin1_aae02_14 (by decide) ?_
  rw [hQ]
  exact W.zret (v := 1) (ty := .boolean) hx hb hr (by decide) (fun t ht hW => ⟨1, rfl, rfl, ht⟩) (fun q h => by cases h) dJ0_isLatin1_aae02_18

set_option maxHeartbeats 4000000 in
set_option maxRecDepth 100000 in
theorem c_J0_length_8abf5 (l : Launch) (D : va_G) (E : Nat → ClassId) (G : Nat → Nat) (j : Nat) (hj : j < 34) : Met l yJ0_length_8abf5 (oh_w yJ0_length_8abf5 cJ0_length_8abf5 1 (some .int)) ({ frames := 1, cells := 0, slots := 0, locals := 20 }) (oh_Pp D E G [.ref (G (3 + j))] []) (vp_Si (fun r => r = Int32.ofNat (oh_len j))) 0 0 (fun _ => False) := by
  refine Met.ofW (cc := cJ0_length_8abf5) (maxL := 1) (ret := (some .int)) (by decide) rfl ?_
  intro p e s m args below meth c s₁ B hml hv
  obtain ⟨rfl, hP, hK, hG⟩ := hv
  have hx := B.exec
  have hb := B.bytes
  have hr := B.returns
  have hts := atoms_spec (ws := (oh_w yJ0_length_8abf5 cJ0_length_8abf5 1 (some .int))) B.pre
  have htg : ∀ w ∈ oh_t, w.before _ s = true := fun w h => hts w (List.mem_cons_of_mem _ h)
  have hown : s.vm.findClass RJ0 = some m.cls := findClass_of_methodNamed B.named
  have hlocks := B.notSynchronized
  have hS : va_S (fun _ => False) s.heap s.heap [] := va_S.rf
  have hl := lv_entry ([.ref (G (3 + j))]) (n := 1) (Nat.le_of_ble_eq_true rfl)
  rw [lg_entry_eq]
  generalize (lg_sl ([.ref (G (3 + j))]) ++ List.replicate (1 - (lg_sl ([.ref (G (3 + j))])).length) Slot.unset).toArray = ls at hl ⊢
  have hl : lv_has ls 1 [(0, .ref (G (3 + j)))] := hl
  refine oh_genQ (fun Q hQ => ?_)
  refine lv_aload_n hx hb dJ0_length_8abf5_0 rfl (lv_at hl 0 rfl) ?_
  refine vk_getf (v := .ref (G (40 + j))) hx hb (hG.2.2.2.2.2.2.2.2.2.2 j hj).2.2.1 hS hown (htg _ q_1447) (fun _ h9 => h9) dJ0_length_8abf5_1 ?_
  refine va_tlen (v := Int32.ofNat (oh_len j)) hx hb (hG.2.2.2.2.2.2.2.2.2.2 j hj).2.2.2 hS rfl dJ0_length_8abf5_4 ?_
  refine lv_aload_n hx hb dJ0_length_8abf5_5 rfl (lv_at hl 0 rfl) ?_
  refine tq_V (As := []) (rest := [.int (Int32.ofNat (oh_len j))]) (ws := []) ⟨hx, hb, hml, hown, htg⟩ (c_J0_coder_7d493 l D E G j hj) (cwV 0 htg (oh_gV q_525 q_526 q_527 q_75 q_528) rfl rfl rfl pdVJ0_coder_7d493 ⟨Nat.le_of_ble_eq_true rfl, Nat.le_of_ble_eq_true rfl⟩) hK va_nil hG hS (oh_srec hG hS hj) rfl hl.1 rfl (Nat.le_of_ble_eq_true rfl) dJ0_length_8abf5_6 ⟨Nat.le_of_ble_eq_true rfl, Nat.le_of_ble_eq_true rfl⟩ (fun r_1 hq_2 => ?_)
  subst hq_2
  refine lv_ishr hx hb dJ0_length_8abf5_9 ?_
  rw [hQ]
  exact W.iret (v := (Int32.ofNat (oh_len j)) >>> ((0 : Int32) &&& 31)) hx hb hr (fun t ht hW => ⟨(Int32.ofNat (oh_len j)) >>> ((0 : Int32) &&& 31), rfl, (oh_shr0 _), ht⟩) (fun q h => by cases h) dJ0_length_8abf5_10

set_option maxHeartbeats 4000000 in
set_option maxRecDepth 100000 in
theorem c_J3_checkIndex_n (l : Launch) (D : va_G) (E : Nat → ClassId) (G : Nat → Nat) (x1 : Int32) (x2 : Int32) (h1 : ¬ x1 < 0) (h2 : x1 < x2) : Met l yJ3_checkIndex_8e157 (oh_w yJ3_checkIndex_8e157 cJ3_checkIndex_8e157 3 (some .int)) ({ frames := 0, cells := 0, slots := 0, locals := 0 }) (oh_Pp D E G [.int x1, .int x2, .null] []) (vp_Si (fun r => True)) 0 0 (fun _ => False) := by
  refine Met.ofW (cc := cJ3_checkIndex_8e157) (maxL := 3) (ret := (some .int)) (by decide) rfl ?_
  intro p e s m args below meth c s₁ B hml hv
  obtain ⟨rfl, hP, hK, hG⟩ := hv
  have hx := B.exec
  have hb := B.bytes
  have hr := B.returns
  have hts := atoms_spec (ws := (oh_w yJ3_checkIndex_8e157 cJ3_checkIndex_8e157 3 (some .int))) B.pre
  have htg : ∀ w ∈ oh_t, w.before _ s = true := fun w h => hts w (List.mem_cons_of_mem _ h)
  have hown : s.vm.findClass RJ3 = some m.cls := findClass_of_methodNamed B.named
  have hlocks := B.notSynchronized
  have hS : va_S (fun _ => False) s.heap s.heap [] := va_S.rf
  have hl := lv_entry ([.int x1, .int x2, .null]) (n := 3) (Nat.le_of_ble_eq_true rfl)
  rw [lg_entry_eq]
  generalize (lg_sl ([.int x1, .int x2, .null]) ++ List.replicate (3 - (lg_sl ([.int x1, .int x2, .null])).length) Slot.unset).toArray = ls at hl ⊢
  have hl : lv_has ls 3 [(0, .int x1), (1, .int x2), (2, .null)] := hl
  refine oh_genQ (fun Q hQ => ?_)
  refine lv_iload_n hx hb dJ3_checkIndex_8e157_0 rfl (lv_at hl 0 rfl) ?_
  refine lv_if_lt (tgt := 9) hx hb dJ3_checkIndex_8e157_1 (by decide) (fun c => absurd c (show ¬ (x1 < 0) from h1)) (fun _ => ?_)
  refine lv_iload_n hx hb dJ3_checkIndex_8e157_4 rfl (lv_at hl 0 rfl) ?_
  refine lv_iload_n hx hb dJ3_checkIndex_8e157_5 rfl (lv_at hl 1 rfl) ?_
  refine lv_icmp_lt (tgt := 16) hx hb dJ3_checkIndex_8e157_6 (by decide) (fun _ => ?_) (fun c => absurd (show x1 < x2 from h2) c)
  refine lv_iload_n hx hb dJ3_checkIndex_8e157_16 rfl (lv_at hl 0 rfl) ?_
  rw [hQ]
  exact W.iret (v := x1) hx hb hr (fun t ht hW => ⟨x1, rfl, trivial, ht⟩) (fun q h => by cases h) dJ3_checkIndex_8e157_17

set_option maxHeartbeats 4000000 in
set_option maxRecDepth 100000 in
theorem c_J3_checkIndex_r (l : Launch) (D : va_G) (E : Nat → ClassId) (G : Nat → Nat) (x1 : Int32) (x2 : Int32) (t : Nat) (h1 : ¬ x1 < 0) (h2 : x1 < x2) : Met l yJ3_checkIndex_8e157 (oh_w yJ3_checkIndex_8e157 cJ3_checkIndex_8e157 3 (some .int)) ({ frames := 0, cells := 0, slots := 0, locals := 0 }) (oh_Pp D E G [.int x1, .int x2, .ref t] []) (vp_Si (fun r => True)) 0 0 (fun _ => False) := by
  refine Met.ofW (cc := cJ3_checkIndex_8e157) (maxL := 3) (ret := (some .int)) (by decide) rfl ?_
  intro p e s m args below meth c s₁ B hml hv
  obtain ⟨rfl, hP, hK, hG⟩ := hv
  have hx := B.exec
  have hb := B.bytes
  have hr := B.returns
  have hts := atoms_spec (ws := (oh_w yJ3_checkIndex_8e157 cJ3_checkIndex_8e157 3 (some .int))) B.pre
  have htg : ∀ w ∈ oh_t, w.before _ s = true := fun w h => hts w (List.mem_cons_of_mem _ h)
  have hown : s.vm.findClass RJ3 = some m.cls := findClass_of_methodNamed B.named
  have hlocks := B.notSynchronized
  have hS : va_S (fun _ => False) s.heap s.heap [] := va_S.rf
  have hl := lv_entry ([.int x1, .int x2, .ref t]) (n := 3) (Nat.le_of_ble_eq_true rfl)
  rw [lg_entry_eq]
  generalize (lg_sl ([.int x1, .int x2, .ref t]) ++ List.replicate (3 - (lg_sl ([.int x1, .int x2, .ref t])).length) Slot.unset).toArray = ls at hl ⊢
  have hl : lv_has ls 3 [(0, .int x1), (1, .int x2), (2, .ref t)] := hl
  refine oh_genQ (fun Q hQ => ?_)
  refine lv_iload_n hx hb dJ3_checkIndex_8e157_0 rfl (lv_at hl 0 rfl) ?_
  refine lv_if_lt (tgt := 9) hx hb dJ3_checkIndex_8e157_1 (by decide) (fun c => absurd c (show ¬ (x1 < 0) from h1)) (fun _ => ?_)
  refine lv_iload_n hx hb dJ3_checkIndex_8e157_4 rfl (lv_at hl 0 rfl) ?_
  refine lv_iload_n hx hb dJ3_checkIndex_8e157_5 rfl (lv_at hl 1 rfl) ?_
  refine lv_icmp_lt (tgt := 16) hx hb dJ3_checkIndex_8e157_6 (by decide) (fun _ => ?_) (fun c => absurd (show x1 < x2 from h2) c)
  refine lv_iload_n hx hb dJ3_checkIndex_8e157_16 rfl (lv_at hl 0 rfl) ?_
  rw [hQ]
  exact W.iret (v := x1) hx hb hr (fun t ht hW => ⟨x1, rfl, trivial, ht⟩) (fun q h => by cases h) dJ3_checkIndex_8e157_17

set_option maxHeartbeats 4000000 in
set_option maxRecDepth 100000 in
theorem c_J0_checkIndex_df160 (l : Launch) (D : va_G) (E : Nat → ClassId) (G : Nat → Nat) (x1 : Int32) (x2 : Int32) (h1 : ¬ x1 < 0) (h2 : x1 < x2) : Met l yJ0_checkIndex_df160 (oh_w yJ0_checkIndex_df160 cJ0_checkIndex_df160 2 none) ({ frames := 1, cells := 0, slots := 0, locals := 22 }) (oh_Pp D E G [.int x1, .int x2] []) oh_Sv 0 0 (fun _ => False) := by
  refine Met.ofW (cc := cJ0_checkIndex_df160) (maxL := 2) (ret := none) (by decide) rfl ?_
  intro p e s m args below meth c s₁ B hml hv
  obtain ⟨rfl, hP, hK, hG⟩ := hv
  have hx := B.exec
  have hb := B.bytes
  have hr := B.returns
  have hts := atoms_spec (ws := (oh_w yJ0_checkIndex_df160 cJ0_checkIndex_df160 2 none)) B.pre
  have htg : ∀ w ∈ oh_t, w.before _ s = true := fun w h => hts w (List.mem_cons_of_mem _ h)
  have hown : s.vm.findClass RJ0 = some m.cls := findClass_of_methodNamed B.named
  have hlocks := B.notSynchronized
  have hS : va_S (fun _ => False) s.heap s.heap [] := va_S.rf
  have hl := lv_entry ([.int x1, .int x2]) (n := 2) (Nat.le_of_ble_eq_true rfl)
  rw [lg_entry_eq]
  generalize (lg_sl ([.int x1, .int x2]) ++ List.replicate (2 - (lg_sl ([.int x1, .int x2])).length) Slot.unset).toArray = ls at hl ⊢
  have hl : lv_has ls 2 [(0, .int x1), (1, .int x2)] := hl
  refine oh_genQ (fun Q hQ => ?_)
  refine lv_iload_n hx hb dJ0_checkIndex_df160_0 rfl (lv_at hl 0 rfl) ?_
  refine lv_iload_n hx hb dJ0_checkIndex_df160_1 rfl (lv_at hl 1 rfl) ?_
  rcases hG.2.2.2.2.2.2.2.2.2.1 with hz | ⟨zt, hz⟩
  · refine va_gets hx hb hz hS hown (htg _ q_545) (fun _ h9 => h9) dJ0_checkIndex_df160_2 ?_
    refine tq_S (As := [.int x1, .int x2, .null]) (rest := []) (ws := []) ⟨hx, hb, hml, hown, htg⟩ (c_J3_checkIndex_n l D E G x1 x2 h1 h2) (va_cwS 3 htg (oh_gS q_547 q_548 q_77 q_549) rfl rfl rfl pdJ3_checkIndex_8e157 ⟨Nat.le_of_ble_eq_true rfl, Nat.le_of_ble_eq_true rfl⟩) hK va_nil hG hS rfl hl.1 rfl (Nat.le_of_ble_eq_true rfl) dJ0_checkIndex_df160_5 ⟨Nat.le_of_ble_eq_true rfl, Nat.le_of_ble_eq_true rfl⟩ (fun r_1 hq_2 => ?_)
    refine lv_pop hx hb dJ0_checkIndex_df160_8 rfl ?_
    rw [hQ]
    exact W.vret hx hb hr (fun t ht hW => ⟨rfl, ht⟩) (fun q h => by cases h) dJ0_checkIndex_df160_9
  · refine va_gets hx hb hz hS hown (htg _ q_545) (fun _ h9 => h9) dJ0_checkIndex_df160_2 ?_
    refine tq_S (As := [.int x1, .int x2, .ref zt]) (rest := []) (ws := []) ⟨hx, hb, hml, hown, htg⟩ (c_J3_checkIndex_r l D E G x1 x2 zt h1 h2) (va_cwS 3 htg (oh_gS q_547 q_548 q_77 q_549) rfl rfl rfl pdJ3_checkIndex_8e157 ⟨Nat.le_of_ble_eq_true rfl, Nat.le_of_ble_eq_true rfl⟩) hK va_nil hG hS rfl hl.1 rfl (Nat.le_of_ble_eq_true rfl) dJ0_checkIndex_df160_5 ⟨Nat.le_of_ble_eq_true rfl, Nat.le_of_ble_eq_true rfl⟩ (fun r_3 hq_4 => ?_)
    refine lv_pop hx hb dJ0_checkIndex_df160_8 rfl ?_
    rw [hQ]
    exact W.vret hx hb hr (fun t ht hW => ⟨rfl, ht⟩) (fun q h => by cases h) dJ0_checkIndex_df160_9

set_option maxHeartbeats 4000000 in
set_option maxRecDepth 100000 in
theorem c_J1_charAt_3b067 (l : Launch) (D : va_G) (E : Nat → ClassId) (G : Nat → Nat) (j : Nat) (x1 : Int32) (hj : j < 34) (h1 : ¬ x1 < 0) (h2 : x1 < Int32.ofNat (oh_len j)) : Met l yJ1_charAt_3b067 (oh_w yJ1_charAt_3b067 cJ1_charAt_3b067 2 (some .char)) ({ frames := 2, cells := 0, slots := 0, locals := 43 }) (oh_Pp D E G [.ref (G (40 + j)), .int x1] []) (vp_Si (fun r => r = oh_byt j (x1).toNatClampNeg)) 0 0 (fun _ => False) := by
  refine Met.ofW (cc := cJ1_charAt_3b067) (maxL := 2) (ret := (some .char)) (by decide) rfl ?_
  intro p e s m args below meth c s₁ B hml hv
  obtain ⟨rfl, hP, hK, hG⟩ := hv
  have hx := B.exec
  have hb := B.bytes
  have hr := B.returns
  have hts := atoms_spec (ws := (oh_w yJ1_charAt_3b067 cJ1_charAt_3b067 2 (some .char))) B.pre
  have htg : ∀ w ∈ oh_t, w.before _ s = true := fun w h => hts w (List.mem_cons_of_mem _ h)
  have hown : s.vm.findClass RJ1 = some m.cls := findClass_of_methodNamed B.named
  have hlocks := B.notSynchronized
  have hS : va_S (fun _ => False) s.heap s.heap [] := va_S.rf
  have hl := lv_entry ([.ref (G (40 + j)), .int x1]) (n := 2) (Nat.le_of_ble_eq_true rfl)
  rw [lg_entry_eq]
  generalize (lg_sl ([.ref (G (40 + j)), .int x1]) ++ List.replicate (2 - (lg_sl ([.ref (G (40 + j)), .int x1])).length) Slot.unset).toArray = ls at hl ⊢
  have hl : lv_has ls 2 [(0, .ref (G (40 + j))), (1, .int x1)] := hl
  refine oh_genQ (fun Q hQ => ?_)
  refine lv_iload_n hx hb dJ1_charAt_3b067_0 rfl (lv_at hl 1 rfl) ?_
  refine lv_aload_n hx hb dJ1_charAt_3b067_1 rfl (lv_at hl 0 rfl) ?_
  refine va_tlen (v := Int32.ofNat (oh_len j)) hx hb (hG.2.2.2.2.2.2.2.2.2.2 j hj).2.2.2 hS rfl dJ1_charAt_3b067_2 ?_
  refine tq_Sv (As := [.int x1, .int (Int32.ofNat (oh_len j))]) (rest := []) (ws := []) ⟨hx, hb, hml, hown, htg⟩ (c_J0_checkIndex_df160 l D E G x1 (Int32.ofNat (oh_len j)) h1 h2) (va_cwS 2 htg (oh_gS q_542 q_543 q_75 q_544) rfl rfl rfl pdJ0_checkIndex_df160 ⟨Nat.le_of_ble_eq_true rfl, Nat.le_of_ble_eq_true rfl⟩) hK va_nil hG hS rfl hl.1 rfl (Nat.le_of_ble_eq_true rfl) dJ1_charAt_3b067_3 ⟨Nat.le_of_ble_eq_true rfl, Nat.le_of_ble_eq_true rfl⟩ ?_
  refine lv_aload_n hx hb dJ1_charAt_3b067_6 rfl (lv_at hl 0 rfl) ?_
  refine lv_iload_n hx hb dJ1_charAt_3b067_7 rfl (lv_at hl 1 rfl) ?_
  refine va_tb (v := .int (oh_byt j (x1).toNatClampNeg)) hx hb (hG.2.2.2.2.2.2.2.2.2.2 j hj).2.2.2 hS (oh_chin hj h1 h2) rfl dJ1_charAt_3b067_8 ?_
  refine lv_sipush (v := 255) hx hb dJ1_charAt_3b067_9 (by decide) ?_
  refine lv_iand hx hb dJ1_charAt_3b067_12 ?_
  refine lv_i2c (v := (((oh_byt j (x1).toNatClampNeg) &&& 255).toUInt32 % 65536).toInt32) hx hb dJ1_charAt_3b067_13 rfl ?_
  rw [hQ]
  exact W.zret (v := (((oh_byt j (x1).toNatClampNeg) &&& 255).toUInt32 % 65536).toInt32) (ty := .char) hx hb hr (oh_chr hj h1 h2).2 (fun t ht hW => ⟨(((oh_byt j (x1).toNatClampNeg) &&& 255).toUInt32 % 65536).toInt32, rfl, (oh_chr hj h1 h2).1, ht⟩) (fun q h => by cases h) dJ1_charAt_3b067_14

set_option maxHeartbeats 4000000 in
set_option maxRecDepth 100000 in
theorem c_J0_charAt_5068e (l : Launch) (D : va_G) (E : Nat → ClassId) (G : Nat → Nat) (j : Nat) (x1 : Int32) (hj : j < 34) (h1 : ¬ x1 < 0) (h2 : x1 < Int32.ofNat (oh_len j)) : Met l yJ0_charAt_5068e (oh_w yJ0_charAt_5068e cJ0_charAt_5068e 2 (some .char)) ({ frames := 3, cells := 0, slots := 0, locals := 64 }) (oh_Pp D E G [.ref (G (3 + j)), .int x1] []) (vp_Si (fun r => r = oh_byt j (x1).toNatClampNeg)) 0 0 (fun _ => False) := by
  refine Met.ofW (cc := cJ0_charAt_5068e) (maxL := 2) (ret := (some .char)) (by decide) rfl ?_
  intro p e s m args below meth c s₁ B hml hv
  obtain ⟨rfl, hP, hK, hG⟩ := hv
  have hx := B.exec
  have hb := B.bytes
  have hr := B.returns
  have hts := atoms_spec (ws := (oh_w yJ0_charAt_5068e cJ0_charAt_5068e 2 (some .char))) B.pre
  have htg : ∀ w ∈ oh_t, w.before _ s = true := fun w h => hts w (List.mem_cons_of_mem _ h)
  have hown : s.vm.findClass RJ0 = some m.cls := findClass_of_methodNamed B.named
  have hlocks := B.notSynchronized
  have hS : va_S (fun _ => False) s.heap s.heap [] := va_S.rf
  have hl := lv_entry ([.ref (G (3 + j)), .int x1]) (n := 2) (Nat.le_of_ble_eq_true rfl)
  rw [lg_entry_eq]
  generalize (lg_sl ([.ref (G (3 + j)), .int x1]) ++ List.replicate (2 - (lg_sl ([.ref (G (3 + j)), .int x1])).length) Slot.unset).toArray = ls at hl ⊢
  have hl : lv_has ls 2 [(0, .ref (G (3 + j))), (1, .int x1)] := hl
  refine oh_genQ (fun Q hQ => ?_)
  refine lv_aload_n hx hb dJ0_charAt_5068e_0 rfl (lv_at hl 0 rfl) ?_
  refine tq_V (As := []) (rest := []) (ws := []) ⟨hx, hb, hml, hown, htg⟩ (c_J0_isLatin1_aae02 l D E G j hj) (cwV 0 htg (oh_gV q_535 q_536 q_537 q_75 q_538) rfl rfl rfl pdVJ0_isLatin1_aae02 ⟨Nat.le_of_ble_eq_true rfl, Nat.le_of_ble_eq_true rfl⟩) hK va_nil hG hS (oh_srec hG hS hj) rfl hl.1 rfl (Nat.le_of_ble_eq_true rfl) dJ0_charAt_5068e_1 ⟨Nat.le_of_ble_eq_true rfl, Nat.le_of_ble_eq_true rfl⟩ (fun r_1 hq_2 => ?_)
  subst hq_2
  refine lv_if_eq (tgt := 16) hx hb dJ0_charAt_5068e_4 (by decide) (fun c => absurd c (show ¬ ((1 : Int32) = 0) from by decide)) (fun _ => ?_)
  refine lv_aload_n hx hb dJ0_charAt_5068e_7 rfl (lv_at hl 0 rfl) ?_
  refine vk_getf (v := .ref (G (40 + j))) hx hb (hG.2.2.2.2.2.2.2.2.2.2 j hj).2.2.1 hS hown (htg _ q_1447) (fun _ h9 => h9) dJ0_charAt_5068e_8 ?_
  refine lv_iload_n hx hb dJ0_charAt_5068e_11 rfl (lv_at hl 1 rfl) ?_
  refine tq_S (As := [.ref (G (40 + j)), .int x1]) (rest := []) (ws := []) ⟨hx, hb, hml, hown, htg⟩ (c_J1_charAt_3b067 l D E G j x1 hj h1 h2) (va_cwS 2 htg (oh_gS q_539 q_540 q_76 q_541) rfl rfl rfl pdJ1_charAt_3b067 ⟨Nat.le_of_ble_eq_true rfl, Nat.le_of_ble_eq_true rfl⟩) hK va_nil hG hS rfl hl.1 rfl (Nat.le_of_ble_eq_true rfl) dJ0_charAt_5068e_12 ⟨Nat.le_of_ble_eq_true rfl, Nat.le_of_ble_eq_true rfl⟩ (fun r_3 hq_4 => ?_)
  subst hq_4
  rw [hQ]
  exact W.zret (v := oh_byt j (x1).toNatClampNeg) (ty := .char) hx hb hr (by rw [← (oh_chr hj h1 h2).1]; exact (oh_chr hj h1 h2).2) (fun t ht hW => ⟨oh_byt j (x1).toNatClampNeg, rfl, rfl, ht⟩) (fun q h => by cases h) dJ0_charAt_5068e_15
