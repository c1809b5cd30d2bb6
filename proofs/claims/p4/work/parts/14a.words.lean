theorem bg_dX3_copyElements_0 : bysAt cX3_copyElements 0 [42, 180, 0, 18, 27, 16, 40, 104, 29, 96, 42, 180, 0, 18, 28, 16, 40, 104, 21, 4, 96] := bysAt_of (by decide +kernel)
theorem dX3_copyElements_0 : decode cX3_copyElements 0 = .ok (.aload_n 0, 1) := o_42 (bg_dX3_copyElements_0 0 42 rfl)
theorem dX3_copyElements_1 : decode cX3_copyElements 1 = .ok (.getfield 18, 3) := o_180 (bg_dX3_copyElements_0 1 180 rfl) (bg_dX3_copyElements_0 2 0 rfl) (bg_dX3_copyElements_0 3 18 rfl)
theorem dX3_copyElements_4 : decode cX3_copyElements 4 = .ok (.iload_n 1, 1) := o_27 (bg_dX3_copyElements_0 4 27 rfl)
theorem dX3_copyElements_5 : decode cX3_copyElements 5 = .ok (.bipush 40, 2) := o_16 (bg_dX3_copyElements_0 5 16 rfl) (bg_dX3_copyElements_0 6 40 rfl) (by decide +kernel)
theorem dX3_copyElements_7 : decode cX3_copyElements 7 = .ok (.imul, 1) := o_104 (bg_dX3_copyElements_0 7 104 rfl)
theorem dX3_copyElements_8 : decode cX3_copyElements 8 = .ok (.iload_n 3, 1) := o_29 (bg_dX3_copyElements_0 8 29 rfl)
theorem dX3_copyElements_9 : decode cX3_copyElements 9 = .ok (.iadd, 1) := o_96 (bg_dX3_copyElements_0 9 96 rfl)
theorem dX3_copyElements_10 : decode cX3_copyElements 10 = .ok (.aload_n 0, 1) := o_42 (bg_dX3_copyElements_0 10 42 rfl)
theorem dX3_copyElements_11 : decode cX3_copyElements 11 = .ok (.getfield 18, 3) := o_180 (bg_dX3_copyElements_0 11 180 rfl) (bg_dX3_copyElements_0 12 0 rfl) (bg_dX3_copyElements_0 13 18 rfl)
theorem dX3_copyElements_14 : decode cX3_copyElements 14 = .ok (.iload_n 2, 1) := o_28 (bg_dX3_copyElements_0 14 28 rfl)
theorem dX3_copyElements_15 : decode cX3_copyElements 15 = .ok (.bipush 40, 2) := o_16 (bg_dX3_copyElements_0 15 16 rfl) (bg_dX3_copyElements_0 16 40 rfl) (by decide +kernel)
theorem dX3_copyElements_17 : decode cX3_copyElements 17 = .ok (.imul, 1) := o_104 (bg_dX3_copyElements_0 17 104 rfl)
theorem dX3_copyElements_18 : decode cX3_copyElements 18 = .ok (.iload 4, 2) := o_21 (bg_dX3_copyElements_0 18 21 rfl) (bg_dX3_copyElements_0 19 4 rfl)
theorem dX3_copyElements_20 : decode cX3_copyElements 20 = .ok (.iadd, 1) := o_96 (bg_dX3_copyElements_0 20 96 rfl)
theorem bg_dX3_copyElements_21 : bysAt cX3_copyElements 21 [21, 5, 184, 0, 44, 177] := bysAt_of (by decide +kernel)
theorem dX3_copyElements_21 : decode cX3_copyElements 21 = .ok (.iload 5, 2) := o_21 (bg_dX3_copyElements_21 0 21 rfl) (bg_dX3_copyElements_21 1 5 rfl)
theorem dX3_copyElements_23 : decode cX3_copyElements 23 = .ok (.invokestatic 44, 3) := o_184 (bg_dX3_copyElements_21 2 184 rfl) (bg_dX3_copyElements_21 3 0 rfl) (bg_dX3_copyElements_21 4 44 rfl)
theorem dX3_copyElements_26 : decode cX3_copyElements 26 = .ok (.return_, 1) := o_177 (bg_dX3_copyElements_21 5 177 rfl)
theorem bg_dX6_coinIfFallen_0 : bysAt cX6_coinIfFallen 0 [42, 180, 0, 10, 27, 16, 8, 182, 0, 159, 54, 6, 42, 180, 0, 10, 27, 16, 8, 4, 182, 0, 162, 42, 180, 0, 28] := bysAt_of (by decide +kernel)
theorem dX6_coinIfFallen_0 : decode cX6_coinIfFallen 0 = .ok (.aload_n 0, 1) := o_42 (bg_dX6_coinIfFallen_0 0 42 rfl)
theorem dX6_coinIfFallen_1 : decode cX6_coinIfFallen 1 = .ok (.getfield 10, 3) := o_180 (bg_dX6_coinIfFallen_0 1 180 rfl) (bg_dX6_coinIfFallen_0 2 0 rfl) (bg_dX6_coinIfFallen_0 3 10 rfl)
theorem dX6_coinIfFallen_4 : decode cX6_coinIfFallen 4 = .ok (.iload_n 1, 1) := o_27 (bg_dX6_coinIfFallen_0 4 27 rfl)
theorem dX6_coinIfFallen_5 : decode cX6_coinIfFallen 5 = .ok (.bipush 8, 2) := o_16 (bg_dX6_coinIfFallen_0 5 16 rfl) (bg_dX6_coinIfFallen_0 6 8 rfl) (by decide +kernel)
theorem dX6_coinIfFallen_7 : decode cX6_coinIfFallen 7 = .ok (.invokevirtual 159, 3) := o_182 (bg_dX6_coinIfFallen_0 7 182 rfl) (bg_dX6_coinIfFallen_0 8 0 rfl) (bg_dX6_coinIfFallen_0 9 159 rfl)
theorem dX6_coinIfFallen_10 : decode cX6_coinIfFallen 10 = .ok (.istore 6, 2) := o_54 (bg_dX6_coinIfFallen_0 10 54 rfl) (bg_dX6_coinIfFallen_0 11 6 rfl)
theorem dX6_coinIfFallen_12 : decode cX6_coinIfFallen 12 = .ok (.aload_n 0, 1) := o_42 (bg_dX6_coinIfFallen_0 12 42 rfl)
theorem dX6_coinIfFallen_13 : decode cX6_coinIfFallen 13 = .ok (.getfield 10, 3) := o_180 (bg_dX6_coinIfFallen_0 13 180 rfl) (bg_dX6_coinIfFallen_0 14 0 rfl) (bg_dX6_coinIfFallen_0 15 10 rfl)
theorem dX6_coinIfFallen_16 : decode cX6_coinIfFallen 16 = .ok (.iload_n 1, 1) := o_27 (bg_dX6_coinIfFallen_0 16 27 rfl)
theorem dX6_coinIfFallen_17 : decode cX6_coinIfFallen 17 = .ok (.bipush 8, 2) := o_16 (bg_dX6_coinIfFallen_0 17 16 rfl) (bg_dX6_coinIfFallen_0 18 8 rfl) (by decide +kernel)
theorem dX6_coinIfFallen_19 : decode cX6_coinIfFallen 19 = .ok (.iconst 1, 1) := o_4 (bg_dX6_coinIfFallen_0 19 4 rfl)
theorem dX6_coinIfFallen_20 : decode cX6_coinIfFallen 20 = .ok (.invokevirtual 162, 3) := o_182 (bg_dX6_coinIfFallen_0 20 182 rfl) (bg_dX6_coinIfFallen_0 21 0 rfl) (bg_dX6_coinIfFallen_0 22 162 rfl)
theorem dX6_coinIfFallen_23 : decode cX6_coinIfFallen 23 = .ok (.aload_n 0, 1) := o_42 (bg_dX6_coinIfFallen_0 23 42 rfl)
theorem dX6_coinIfFallen_24 : decode cX6_coinIfFallen 24 = .ok (.getfield 28, 3) := o_180 (bg_dX6_coinIfFallen_0 24 180 rfl) (bg_dX6_coinIfFallen_0 25 0 rfl) (bg_dX6_coinIfFallen_0 26 28 rfl)
theorem bg_dX6_coinIfFallen_27 : bysAt cX6_coinIfFallen 27 [28, 29, 21, 4, 21, 5, 4, 182, 0, 242, 54, 7, 42, 180, 0, 10, 27, 16, 8, 21, 6, 182, 0, 162, 21, 7] := bysAt_of (by decide +kernel)
theorem dX6_coinIfFallen_27 : decode cX6_coinIfFallen 27 = .ok (.iload_n 2, 1) := o_28 (bg_dX6_coinIfFallen_27 0 28 rfl)
theorem dX6_coinIfFallen_28 : decode cX6_coinIfFallen 28 = .ok (.iload_n 3, 1) := o_29 (bg_dX6_coinIfFallen_27 1 29 rfl)
theorem dX6_coinIfFallen_29 : decode cX6_coinIfFallen 29 = .ok (.iload 4, 2) := o_21 (bg_dX6_coinIfFallen_27 2 21 rfl) (bg_dX6_coinIfFallen_27 3 4 rfl)
theorem dX6_coinIfFallen_31 : decode cX6_coinIfFallen 31 = .ok (.iload 5, 2) := o_21 (bg_dX6_coinIfFallen_27 4 21 rfl) (bg_dX6_coinIfFallen_27 5 5 rfl)
theorem dX6_coinIfFallen_33 : decode cX6_coinIfFallen 33 = .ok (.iconst 1, 1) := o_4 (bg_dX6_coinIfFallen_27 6 4 rfl)
theorem dX6_coinIfFallen_34 : decode cX6_coinIfFallen 34 = .ok (.invokevirtual 242, 3) := o_182 (bg_dX6_coinIfFallen_27 7 182 rfl) (bg_dX6_coinIfFallen_27 8 0 rfl) (bg_dX6_coinIfFallen_27 9 242 rfl)
theorem dX6_coinIfFallen_37 : decode cX6_coinIfFallen 37 = .ok (.istore 7, 2) := o_54 (bg_dX6_coinIfFallen_27 10 54 rfl) (bg_dX6_coinIfFallen_27 11 7 rfl)
theorem dX6_coinIfFallen_39 : decode cX6_coinIfFallen 39 = .ok (.aload_n 0, 1) := o_42 (bg_dX6_coinIfFallen_27 12 42 rfl)
theorem dX6_coinIfFallen_40 : decode cX6_coinIfFallen 40 = .ok (.getfield 10, 3) := o_180 (bg_dX6_coinIfFallen_27 13 180 rfl) (bg_dX6_coinIfFallen_27 14 0 rfl) (bg_dX6_coinIfFallen_27 15 10 rfl)
theorem dX6_coinIfFallen_43 : decode cX6_coinIfFallen 43 = .ok (.iload_n 1, 1) := o_27 (bg_dX6_coinIfFallen_27 16 27 rfl)
theorem dX6_coinIfFallen_44 : decode cX6_coinIfFallen 44 = .ok (.bipush 8, 2) := o_16 (bg_dX6_coinIfFallen_27 17 16 rfl) (bg_dX6_coinIfFallen_27 18 8 rfl) (by decide +kernel)
theorem dX6_coinIfFallen_46 : decode cX6_coinIfFallen 46 = .ok (.iload 6, 2) := o_21 (bg_dX6_coinIfFallen_27 19 21 rfl) (bg_dX6_coinIfFallen_27 20 6 rfl)
theorem dX6_coinIfFallen_48 : decode cX6_coinIfFallen 48 = .ok (.invokevirtual 162, 3) := o_182 (bg_dX6_coinIfFallen_27 21 182 rfl) (bg_dX6_coinIfFallen_27 22 0 rfl) (bg_dX6_coinIfFallen_27 23 162 rfl)
theorem dX6_coinIfFallen_51 : decode cX6_coinIfFallen 51 = .ok (.iload 7, 2) := o_21 (bg_dX6_coinIfFallen_27 24 21 rfl) (bg_dX6_coinIfFallen_27 25 7 rfl)
theorem bg_dX6_coinIfFallen_53 : bysAt cX6_coinIfFallen 53 [172] := bysAt_of (by decide +kernel)
theorem dX6_coinIfFallen_53 : decode cX6_coinIfFallen 53 = .ok (.ireturn, 1) := o_172 (bg_dX6_coinIfFallen_53 0 172 rfl)
theorem bg_dX6_findBest_0 : bysAt cX6_findBest 0 [42, 180, 0, 59, 5, 18, 255, 79, 3, 62, 29, 42, 180, 0, 10, 180, 1, 17, 5, 46, 162, 0, 98] := bysAt_of (by decide +kernel)
theorem dX6_findBest_0 : decode cX6_findBest 0 = .ok (.aload_n 0, 1) := o_42 (bg_dX6_findBest_0 0 42 rfl)
theorem dX6_findBest_1 : decode cX6_findBest 1 = .ok (.getfield 59, 3) := o_180 (bg_dX6_findBest_0 1 180 rfl) (bg_dX6_findBest_0 2 0 rfl) (bg_dX6_findBest_0 3 59 rfl)
theorem dX6_findBest_4 : decode cX6_findBest 4 = .ok (.iconst 2, 1) := o_5 (bg_dX6_findBest_0 4 5 rfl)
theorem dX6_findBest_5 : decode cX6_findBest 5 = .ok (.ldc 255, 2) := o_18 (bg_dX6_findBest_0 5 18 rfl) (bg_dX6_findBest_0 6 255 rfl)
theorem dX6_findBest_7 : decode cX6_findBest 7 = .ok (.iastore, 1) := o_79 (bg_dX6_findBest_0 7 79 rfl)
theorem dX6_findBest_8 : decode cX6_findBest 8 = .ok (.iconst 0, 1) := o_3 (bg_dX6_findBest_0 8 3 rfl)
theorem dX6_findBest_9 : decode cX6_findBest 9 = .ok (.istore_n 3, 1) := o_62 (bg_dX6_findBest_0 9 62 rfl)
theorem dX6_findBest_10 : decode cX6_findBest 10 = .ok (.iload_n 3, 1) := o_29 (bg_dX6_findBest_0 10 29 rfl)
theorem dX6_findBest_11 : decode cX6_findBest 11 = .ok (.aload_n 0, 1) := o_42 (bg_dX6_findBest_0 11 42 rfl)
theorem dX6_findBest_12 : decode cX6_findBest 12 = .ok (.getfield 10, 3) := o_180 (bg_dX6_findBest_0 12 180 rfl) (bg_dX6_findBest_0 13 0 rfl) (bg_dX6_findBest_0 14 10 rfl)
theorem dX6_findBest_15 : decode cX6_findBest 15 = .ok (.getfield 273, 3) := o_180 (bg_dX6_findBest_0 15 180 rfl) (bg_dX6_findBest_0 16 1 rfl) (bg_dX6_findBest_0 17 17 rfl)
theorem dX6_findBest_18 : decode cX6_findBest 18 = .ok (.iconst 2, 1) := o_5 (bg_dX6_findBest_0 18 5 rfl)
theorem dX6_findBest_19 : decode cX6_findBest 19 = .ok (.iaload, 1) := o_46 (bg_dX6_findBest_0 19 46 rfl)
theorem dX6_findBest_20 : decode cX6_findBest 20 = .ok (.if_icmp .ge 98, 3) := o_162 (bg_dX6_findBest_0 20 162 rfl) (bg_dX6_findBest_0 21 0 rfl) (bg_dX6_findBest_0 22 98 rfl) (by decide +kernel)
theorem bg_dX6_findBest_23 : bysAt cX6_findBest 23 [3, 54, 4, 21, 4, 42, 180, 0, 10, 182, 1, 26, 162, 0, 77, 42, 180, 0, 10, 21, 4, 4, 182, 1, 77, 42, 180, 0, 59] := bysAt_of (by decide +kernel)
theorem dX6_findBest_23 : decode cX6_findBest 23 = .ok (.iconst 0, 1) := o_3 (bg_dX6_findBest_23 0 3 rfl)
theorem dX6_findBest_24 : decode cX6_findBest 24 = .ok (.istore 4, 2) := o_54 (bg_dX6_findBest_23 1 54 rfl) (bg_dX6_findBest_23 2 4 rfl)
theorem dX6_findBest_26 : decode cX6_findBest 26 = .ok (.iload 4, 2) := o_21 (bg_dX6_findBest_23 3 21 rfl) (bg_dX6_findBest_23 4 4 rfl)
theorem dX6_findBest_28 : decode cX6_findBest 28 = .ok (.aload_n 0, 1) := o_42 (bg_dX6_findBest_23 5 42 rfl)
theorem dX6_findBest_29 : decode cX6_findBest 29 = .ok (.getfield 10, 3) := o_180 (bg_dX6_findBest_23 6 180 rfl) (bg_dX6_findBest_23 7 0 rfl) (bg_dX6_findBest_23 8 10 rfl)
theorem dX6_findBest_32 : decode cX6_findBest 32 = .ok (.invokevirtual 282, 3) := o_182 (bg_dX6_findBest_23 9 182 rfl) (bg_dX6_findBest_23 10 1 rfl) (bg_dX6_findBest_23 11 26 rfl)
theorem dX6_findBest_35 : decode cX6_findBest 35 = .ok (.if_icmp .ge 77, 3) := o_162 (bg_dX6_findBest_23 12 162 rfl) (bg_dX6_findBest_23 13 0 rfl) (bg_dX6_findBest_23 14 77 rfl) (by decide +kernel)
theorem dX6_findBest_38 : decode cX6_findBest 38 = .ok (.aload_n 0, 1) := o_42 (bg_dX6_findBest_23 15 42 rfl)
theorem dX6_findBest_39 : decode cX6_findBest 39 = .ok (.getfield 10, 3) := o_180 (bg_dX6_findBest_23 16 180 rfl) (bg_dX6_findBest_23 17 0 rfl) (bg_dX6_findBest_23 18 10 rfl)
theorem dX6_findBest_42 : decode cX6_findBest 42 = .ok (.iload 4, 2) := o_21 (bg_dX6_findBest_23 19 21 rfl) (bg_dX6_findBest_23 20 4 rfl)
theorem dX6_findBest_44 : decode cX6_findBest 44 = .ok (.iconst 1, 1) := o_4 (bg_dX6_findBest_23 21 4 rfl)
theorem dX6_findBest_45 : decode cX6_findBest 45 = .ok (.invokevirtual 333, 3) := o_182 (bg_dX6_findBest_23 22 182 rfl) (bg_dX6_findBest_23 23 1 rfl) (bg_dX6_findBest_23 24 77 rfl)
theorem dX6_findBest_48 : decode cX6_findBest 48 = .ok (.aload_n 0, 1) := o_42 (bg_dX6_findBest_23 25 42 rfl)
theorem dX6_findBest_49 : decode cX6_findBest 49 = .ok (.getfield 59, 3) := o_180 (bg_dX6_findBest_23 26 180 rfl) (bg_dX6_findBest_23 27 0 rfl) (bg_dX6_findBest_23 28 59 rfl)
theorem bg_dX6_findBest_52 : bysAt cX6_findBest 52 [5, 46, 162, 0, 52, 42, 180, 0, 28, 29, 21, 4, 27, 28, 4, 182, 0, 242, 54, 5, 21, 5, 42] := bysAt_of (by decide +kernel)
theorem dX6_findBest_52 : decode cX6_findBest 52 = .ok (.iconst 2, 1) := o_5 (bg_dX6_findBest_52 0 5 rfl)
theorem dX6_findBest_53 : decode cX6_findBest 53 = .ok (.iaload, 1) := o_46 (bg_dX6_findBest_52 1 46 rfl)
theorem dX6_findBest_54 : decode cX6_findBest 54 = .ok (.if_icmp .ge 52, 3) := o_162 (bg_dX6_findBest_52 2 162 rfl) (bg_dX6_findBest_52 3 0 rfl) (bg_dX6_findBest_52 4 52 rfl) (by decide +kernel)
theorem dX6_findBest_57 : decode cX6_findBest 57 = .ok (.aload_n 0, 1) := o_42 (bg_dX6_findBest_52 5 42 rfl)
theorem dX6_findBest_58 : decode cX6_findBest 58 = .ok (.getfield 28, 3) := o_180 (bg_dX6_findBest_52 6 180 rfl) (bg_dX6_findBest_52 7 0 rfl) (bg_dX6_findBest_52 8 28 rfl)
theorem dX6_findBest_61 : decode cX6_findBest 61 = .ok (.iload_n 3, 1) := o_29 (bg_dX6_findBest_52 9 29 rfl)
theorem dX6_findBest_62 : decode cX6_findBest 62 = .ok (.iload 4, 2) := o_21 (bg_dX6_findBest_52 10 21 rfl) (bg_dX6_findBest_52 11 4 rfl)
theorem dX6_findBest_64 : decode cX6_findBest 64 = .ok (.iload_n 1, 1) := o_27 (bg_dX6_findBest_52 12 27 rfl)
theorem dX6_findBest_65 : decode cX6_findBest 65 = .ok (.iload_n 2, 1) := o_28 (bg_dX6_findBest_52 13 28 rfl)
theorem dX6_findBest_66 : decode cX6_findBest 66 = .ok (.iconst 1, 1) := o_4 (bg_dX6_findBest_52 14 4 rfl)
theorem dX6_findBest_67 : decode cX6_findBest 67 = .ok (.invokevirtual 242, 3) := o_182 (bg_dX6_findBest_52 15 182 rfl) (bg_dX6_findBest_52 16 0 rfl) (bg_dX6_findBest_52 17 242 rfl)
theorem dX6_findBest_70 : decode cX6_findBest 70 = .ok (.istore 5, 2) := o_54 (bg_dX6_findBest_52 18 54 rfl) (bg_dX6_findBest_52 19 5 rfl)
theorem dX6_findBest_72 : decode cX6_findBest 72 = .ok (.iload 5, 2) := o_21 (bg_dX6_findBest_52 20 21 rfl) (bg_dX6_findBest_52 21 5 rfl)
theorem dX6_findBest_74 : decode cX6_findBest 74 = .ok (.aload_n 0, 1) := o_42 (bg_dX6_findBest_52 22 42 rfl)
theorem bg_dX6_findBest_75 : bysAt cX6_findBest 75 [180, 0, 59, 5, 46, 162, 0, 26, 42, 180, 0, 59, 3, 29, 79, 42, 180, 0, 59, 4, 21, 4, 79] := bysAt_of (by decide +kernel)
theorem dX6_findBest_75 : decode cX6_findBest 75 = .ok (.getfield 59, 3) := o_180 (bg_dX6_findBest_75 0 180 rfl) (bg_dX6_findBest_75 1 0 rfl) (bg_dX6_findBest_75 2 59 rfl)
theorem dX6_findBest_78 : decode cX6_findBest 78 = .ok (.iconst 2, 1) := o_5 (bg_dX6_findBest_75 3 5 rfl)
theorem dX6_findBest_79 : decode cX6_findBest 79 = .ok (.iaload, 1) := o_46 (bg_dX6_findBest_75 4 46 rfl)
theorem dX6_findBest_80 : decode cX6_findBest 80 = .ok (.if_icmp .ge 26, 3) := o_162 (bg_dX6_findBest_75 5 162 rfl) (bg_dX6_findBest_75 6 0 rfl) (bg_dX6_findBest_75 7 26 rfl) (by decide +kernel)
theorem dX6_findBest_83 : decode cX6_findBest 83 = .ok (.aload_n 0, 1) := o_42 (bg_dX6_findBest_75 8 42 rfl)
theorem dX6_findBest_84 : decode cX6_findBest 84 = .ok (.getfield 59, 3) := o_180 (bg_dX6_findBest_75 9 180 rfl) (bg_dX6_findBest_75 10 0 rfl) (bg_dX6_findBest_75 11 59 rfl)
theorem dX6_findBest_87 : decode cX6_findBest 87 = .ok (.iconst 0, 1) := o_3 (bg_dX6_findBest_75 12 3 rfl)
theorem dX6_findBest_88 : decode cX6_findBest 88 = .ok (.iload_n 3, 1) := o_29 (bg_dX6_findBest_75 13 29 rfl)
theorem dX6_findBest_89 : decode cX6_findBest 89 = .ok (.iastore, 1) := o_79 (bg_dX6_findBest_75 14 79 rfl)
theorem dX6_findBest_90 : decode cX6_findBest 90 = .ok (.aload_n 0, 1) := o_42 (bg_dX6_findBest_75 15 42 rfl)
theorem dX6_findBest_91 : decode cX6_findBest 91 = .ok (.getfield 59, 3) := o_180 (bg_dX6_findBest_75 16 180 rfl) (bg_dX6_findBest_75 17 0 rfl) (bg_dX6_findBest_75 18 59 rfl)
theorem dX6_findBest_94 : decode cX6_findBest 94 = .ok (.iconst 1, 1) := o_4 (bg_dX6_findBest_75 19 4 rfl)
theorem dX6_findBest_95 : decode cX6_findBest 95 = .ok (.iload 4, 2) := o_21 (bg_dX6_findBest_75 20 21 rfl) (bg_dX6_findBest_75 21 4 rfl)
theorem dX6_findBest_97 : decode cX6_findBest 97 = .ok (.iastore, 1) := o_79 (bg_dX6_findBest_75 22 79 rfl)
theorem bg_dX6_findBest_98 : bysAt cX6_findBest 98 [42, 180, 0, 59, 5, 21, 5, 79, 132, 4, 1, 167, 255, 173, 132, 3, 1, 167, 255, 151, 177] := bysAt_of (by decide +kernel)
theorem dX6_findBest_98 : decode cX6_findBest 98 = .ok (.aload_n 0, 1) := o_42 (bg_dX6_findBest_98 0 42 rfl)
theorem dX6_findBest_99 : decode cX6_findBest 99 = .ok (.getfield 59, 3) := o_180 (bg_dX6_findBest_98 1 180 rfl) (bg_dX6_findBest_98 2 0 rfl) (bg_dX6_findBest_98 3 59 rfl)
theorem dX6_findBest_102 : decode cX6_findBest 102 = .ok (.iconst 2, 1) := o_5 (bg_dX6_findBest_98 4 5 rfl)
theorem dX6_findBest_103 : decode cX6_findBest 103 = .ok (.iload 5, 2) := o_21 (bg_dX6_findBest_98 5 21 rfl) (bg_dX6_findBest_98 6 5 rfl)
theorem dX6_findBest_105 : decode cX6_findBest 105 = .ok (.iastore, 1) := o_79 (bg_dX6_findBest_98 7 79 rfl)
theorem dX6_findBest_109 : decode cX6_findBest 109 = .ok (.goto (-83), 3) := o_167 (bg_dX6_findBest_98 11 167 rfl) (bg_dX6_findBest_98 12 255 rfl) (bg_dX6_findBest_98 13 173 rfl) (by decide +kernel)
theorem dX6_findBest_115 : decode cX6_findBest 115 = .ok (.goto (-105), 3) := o_167 (bg_dX6_findBest_98 17 167 rfl) (bg_dX6_findBest_98 18 255 rfl) (bg_dX6_findBest_98 19 151 rfl) (by decide +kernel)
theorem dX6_findBest_118 : decode cX6_findBest 118 = .ok (.return_, 1) := o_177 (bg_dX6_findBest_98 20 177 rfl)
theorem bg_dX6_firstWrong_0 : bysAt cX6_firstWrong 0 [42, 180, 0, 28, 27, 182, 1, 70, 3, 54, 4, 21, 4, 29, 162, 0, 32, 42, 180, 0, 28, 42, 180, 0, 35, 28] := bysAt_of (by decide +kernel)
theorem dX6_firstWrong_0 : decode cX6_firstWrong 0 = .ok (.aload_n 0, 1) := o_42 (bg_dX6_firstWrong_0 0 42 rfl)
theorem dX6_firstWrong_1 : decode cX6_firstWrong 1 = .ok (.getfield 28, 3) := o_180 (bg_dX6_firstWrong_0 1 180 rfl) (bg_dX6_firstWrong_0 2 0 rfl) (bg_dX6_firstWrong_0 3 28 rfl)
theorem dX6_firstWrong_4 : decode cX6_firstWrong 4 = .ok (.iload_n 1, 1) := o_27 (bg_dX6_firstWrong_0 4 27 rfl)
theorem dX6_firstWrong_5 : decode cX6_firstWrong 5 = .ok (.invokevirtual 326, 3) := o_182 (bg_dX6_firstWrong_0 5 182 rfl) (bg_dX6_firstWrong_0 6 1 rfl) (bg_dX6_firstWrong_0 7 70 rfl)
theorem dX6_firstWrong_8 : decode cX6_firstWrong 8 = .ok (.iconst 0, 1) := o_3 (bg_dX6_firstWrong_0 8 3 rfl)
theorem dX6_firstWrong_9 : decode cX6_firstWrong 9 = .ok (.istore 4, 2) := o_54 (bg_dX6_firstWrong_0 9 54 rfl) (bg_dX6_firstWrong_0 10 4 rfl)
theorem dX6_firstWrong_11 : decode cX6_firstWrong 11 = .ok (.iload 4, 2) := o_21 (bg_dX6_firstWrong_0 11 21 rfl) (bg_dX6_firstWrong_0 12 4 rfl)
theorem dX6_firstWrong_13 : decode cX6_firstWrong 13 = .ok (.iload_n 3, 1) := o_29 (bg_dX6_firstWrong_0 13 29 rfl)
theorem dX6_firstWrong_14 : decode cX6_firstWrong 14 = .ok (.if_icmp .ge 32, 3) := o_162 (bg_dX6_firstWrong_0 14 162 rfl) (bg_dX6_firstWrong_0 15 0 rfl) (bg_dX6_firstWrong_0 16 32 rfl) (by decide +kernel)
theorem dX6_firstWrong_17 : decode cX6_firstWrong 17 = .ok (.aload_n 0, 1) := o_42 (bg_dX6_firstWrong_0 17 42 rfl)
theorem dX6_firstWrong_18 : decode cX6_firstWrong 18 = .ok (.getfield 28, 3) := o_180 (bg_dX6_firstWrong_0 18 180 rfl) (bg_dX6_firstWrong_0 19 0 rfl) (bg_dX6_firstWrong_0 20 28 rfl)
theorem dX6_firstWrong_21 : decode cX6_firstWrong 21 = .ok (.aload_n 0, 1) := o_42 (bg_dX6_firstWrong_0 21 42 rfl)
theorem dX6_firstWrong_22 : decode cX6_firstWrong 22 = .ok (.getfield 35, 3) := o_180 (bg_dX6_firstWrong_0 22 180 rfl) (bg_dX6_firstWrong_0 23 0 rfl) (bg_dX6_firstWrong_0 24 35 rfl)
theorem dX6_firstWrong_25 : decode cX6_firstWrong 25 = .ok (.iload_n 2, 1) := o_28 (bg_dX6_firstWrong_0 25 28 rfl)
theorem bg_dX6_firstWrong_26 : bysAt cX6_firstWrong 26 [21, 4, 182, 0, 105, 182, 1, 73, 154, 0, 6, 21, 4, 172, 132, 4, 1, 167, 255, 224, 2, 172] := bysAt_of (by decide +kernel)
theorem dX6_firstWrong_26 : decode cX6_firstWrong 26 = .ok (.iload 4, 2) := o_21 (bg_dX6_firstWrong_26 0 21 rfl) (bg_dX6_firstWrong_26 1 4 rfl)
theorem dX6_firstWrong_28 : decode cX6_firstWrong 28 = .ok (.invokevirtual 105, 3) := o_182 (bg_dX6_firstWrong_26 2 182 rfl) (bg_dX6_firstWrong_26 3 0 rfl) (bg_dX6_firstWrong_26 4 105 rfl)
theorem dX6_firstWrong_31 : decode cX6_firstWrong 31 = .ok (.invokevirtual 329, 3) := o_182 (bg_dX6_firstWrong_26 5 182 rfl) (bg_dX6_firstWrong_26 6 1 rfl) (bg_dX6_firstWrong_26 7 73 rfl)
theorem dX6_firstWrong_34 : decode cX6_firstWrong 34 = .ok (.ifCond .ne 6, 3) := o_154 (bg_dX6_firstWrong_26 8 154 rfl) (bg_dX6_firstWrong_26 9 0 rfl) (bg_dX6_firstWrong_26 10 6 rfl) (by decide +kernel)
theorem dX6_firstWrong_37 : decode cX6_firstWrong 37 = .ok (.iload 4, 2) := o_21 (bg_dX6_firstWrong_26 11 21 rfl) (bg_dX6_firstWrong_26 12 4 rfl)
theorem dX6_firstWrong_39 : decode cX6_firstWrong 39 = .ok (.ireturn, 1) := o_172 (bg_dX6_firstWrong_26 13 172 rfl)
theorem dX6_firstWrong_43 : decode cX6_firstWrong 43 = .ok (.goto (-32), 3) := o_167 (bg_dX6_firstWrong_26 17 167 rfl) (bg_dX6_firstWrong_26 18 255 rfl) (bg_dX6_firstWrong_26 19 224 rfl) (by decide +kernel)
theorem dX6_firstWrong_46 : decode cX6_firstWrong 46 = .ok (.iconst (-1), 1) := o_2 (bg_dX6_firstWrong_26 20 2 rfl)
theorem dX6_firstWrong_47 : decode cX6_firstWrong 47 = .ok (.ireturn, 1) := o_172 (bg_dX6_firstWrong_26 21 172 rfl)
theorem bg_dX6_isBridge_0 : bysAt cX6_isBridge 0 [27, 3, 42, 180, 0, 10, 180, 1, 17, 4, 46, 4, 100, 184, 0, 66, 172] := bysAt_of (by decide +kernel)
theorem dX6_isBridge_0 : decode cX6_isBridge 0 = .ok (.iload_n 1, 1) := o_27 (bg_dX6_isBridge_0 0 27 rfl)
theorem dX6_isBridge_1 : decode cX6_isBridge 1 = .ok (.iconst 0, 1) := o_3 (bg_dX6_isBridge_0 1 3 rfl)
theorem dX6_isBridge_2 : decode cX6_isBridge 2 = .ok (.aload_n 0, 1) := o_42 (bg_dX6_isBridge_0 2 42 rfl)
theorem dX6_isBridge_3 : decode cX6_isBridge 3 = .ok (.getfield 10, 3) := o_180 (bg_dX6_isBridge_0 3 180 rfl) (bg_dX6_isBridge_0 4 0 rfl) (bg_dX6_isBridge_0 5 10 rfl)
theorem dX6_isBridge_6 : decode cX6_isBridge 6 = .ok (.getfield 273, 3) := o_180 (bg_dX6_isBridge_0 6 180 rfl) (bg_dX6_isBridge_0 7 1 rfl) (bg_dX6_isBridge_0 8 17 rfl)
theorem dX6_isBridge_9 : decode cX6_isBridge 9 = .ok (.iconst 1, 1) := o_4 (bg_dX6_isBridge_0 9 4 rfl)
theorem dX6_isBridge_10 : decode cX6_isBridge 10 = .ok (.iaload, 1) := o_46 (bg_dX6_isBridge_0 10 46 rfl)
theorem dX6_isBridge_11 : decode cX6_isBridge 11 = .ok (.iconst 1, 1) := o_4 (bg_dX6_isBridge_0 11 4 rfl)
theorem dX6_isBridge_12 : decode cX6_isBridge 12 = .ok (.isub, 1) := o_100 (bg_dX6_isBridge_0 12 100 rfl)
theorem dX6_isBridge_13 : decode cX6_isBridge 13 = .ok (.invokestatic 66, 3) := o_184 (bg_dX6_isBridge_0 13 184 rfl) (bg_dX6_isBridge_0 14 0 rfl) (bg_dX6_isBridge_0 15 66 rfl)
theorem dX6_isBridge_16 : decode cX6_isBridge 16 = .ok (.ireturn, 1) := o_172 (bg_dX6_isBridge_0 16 172 rfl)
theorem bg_dX6_isJourney_0 : bysAt cX6_isJourney 0 [42, 27, 28, 182, 0, 200, 153, 0, 22, 29, 184, 0, 126, 153, 0, 15, 21, 4, 184, 0, 126, 153, 0, 7, 4, 167, 0, 4, 3] := bysAt_of (by decide +kernel)
theorem dX6_isJourney_0 : decode cX6_isJourney 0 = .ok (.aload_n 0, 1) := o_42 (bg_dX6_isJourney_0 0 42 rfl)
theorem dX6_isJourney_1 : decode cX6_isJourney 1 = .ok (.iload_n 1, 1) := o_27 (bg_dX6_isJourney_0 1 27 rfl)
theorem dX6_isJourney_2 : decode cX6_isJourney 2 = .ok (.iload_n 2, 1) := o_28 (bg_dX6_isJourney_0 2 28 rfl)
theorem dX6_isJourney_3 : decode cX6_isJourney 3 = .ok (.invokevirtual 200, 3) := o_182 (bg_dX6_isJourney_0 3 182 rfl) (bg_dX6_isJourney_0 4 0 rfl) (bg_dX6_isJourney_0 5 200 rfl)
theorem dX6_isJourney_6 : decode cX6_isJourney 6 = .ok (.ifCond .eq 22, 3) := o_153 (bg_dX6_isJourney_0 6 153 rfl) (bg_dX6_isJourney_0 7 0 rfl) (bg_dX6_isJourney_0 8 22 rfl) (by decide +kernel)
theorem dX6_isJourney_9 : decode cX6_isJourney 9 = .ok (.iload_n 3, 1) := o_29 (bg_dX6_isJourney_0 9 29 rfl)
theorem dX6_isJourney_10 : decode cX6_isJourney 10 = .ok (.invokestatic 126, 3) := o_184 (bg_dX6_isJourney_0 10 184 rfl) (bg_dX6_isJourney_0 11 0 rfl) (bg_dX6_isJourney_0 12 126 rfl)
theorem dX6_isJourney_13 : decode cX6_isJourney 13 = .ok (.ifCond .eq 15, 3) := o_153 (bg_dX6_isJourney_0 13 153 rfl) (bg_dX6_isJourney_0 14 0 rfl) (bg_dX6_isJourney_0 15 15 rfl) (by decide +kernel)
theorem dX6_isJourney_16 : decode cX6_isJourney 16 = .ok (.iload 4, 2) := o_21 (bg_dX6_isJourney_0 16 21 rfl) (bg_dX6_isJourney_0 17 4 rfl)
theorem dX6_isJourney_18 : decode cX6_isJourney 18 = .ok (.invokestatic 126, 3) := o_184 (bg_dX6_isJourney_0 18 184 rfl) (bg_dX6_isJourney_0 19 0 rfl) (bg_dX6_isJourney_0 20 126 rfl)
theorem dX6_isJourney_21 : decode cX6_isJourney 21 = .ok (.ifCond .eq 7, 3) := o_153 (bg_dX6_isJourney_0 21 153 rfl) (bg_dX6_isJourney_0 22 0 rfl) (bg_dX6_isJourney_0 23 7 rfl) (by decide +kernel)
theorem dX6_isJourney_24 : decode cX6_isJourney 24 = .ok (.iconst 1, 1) := o_4 (bg_dX6_isJourney_0 24 4 rfl)
theorem dX6_isJourney_25 : decode cX6_isJourney 25 = .ok (.goto 4, 3) := o_167 (bg_dX6_isJourney_0 25 167 rfl) (bg_dX6_isJourney_0 26 0 rfl) (bg_dX6_isJourney_0 27 4 rfl) (by decide +kernel)
theorem dX6_isJourney_28 : decode cX6_isJourney 28 = .ok (.iconst 0, 1) := o_3 (bg_dX6_isJourney_0 28 3 rfl)
theorem bg_dX6_isJourney_29 : bysAt cX6_isJourney 29 [172] := bysAt_of (by decide +kernel)
theorem dX6_isJourney_29 : decode cX6_isJourney 29 = .ok (.ireturn, 1) := o_172 (bg_dX6_isJourney_29 0 172 rfl)
theorem bg_dX6_isPack_0 : bysAt cX6_isPack 0 [42, 27, 182, 0, 194, 153, 0, 24, 28, 3, 42, 180, 0, 10, 182, 1, 26, 4, 100, 184, 0, 66, 153, 0, 7, 4] := bysAt_of (by decide +kernel)
theorem dX6_isPack_0 : decode cX6_isPack 0 = .ok (.aload_n 0, 1) := o_42 (bg_dX6_isPack_0 0 42 rfl)
theorem dX6_isPack_1 : decode cX6_isPack 1 = .ok (.iload_n 1, 1) := o_27 (bg_dX6_isPack_0 1 27 rfl)
theorem dX6_isPack_2 : decode cX6_isPack 2 = .ok (.invokevirtual 194, 3) := o_182 (bg_dX6_isPack_0 2 182 rfl) (bg_dX6_isPack_0 3 0 rfl) (bg_dX6_isPack_0 4 194 rfl)
theorem dX6_isPack_5 : decode cX6_isPack 5 = .ok (.ifCond .eq 24, 3) := o_153 (bg_dX6_isPack_0 5 153 rfl) (bg_dX6_isPack_0 6 0 rfl) (bg_dX6_isPack_0 7 24 rfl) (by decide +kernel)
theorem dX6_isPack_8 : decode cX6_isPack 8 = .ok (.iload_n 2, 1) := o_28 (bg_dX6_isPack_0 8 28 rfl)
theorem dX6_isPack_9 : decode cX6_isPack 9 = .ok (.iconst 0, 1) := o_3 (bg_dX6_isPack_0 9 3 rfl)
theorem dX6_isPack_10 : decode cX6_isPack 10 = .ok (.aload_n 0, 1) := o_42 (bg_dX6_isPack_0 10 42 rfl)
theorem dX6_isPack_11 : decode cX6_isPack 11 = .ok (.getfield 10, 3) := o_180 (bg_dX6_isPack_0 11 180 rfl) (bg_dX6_isPack_0 12 0 rfl) (bg_dX6_isPack_0 13 10 rfl)
theorem dX6_isPack_14 : decode cX6_isPack 14 = .ok (.invokevirtual 282, 3) := o_182 (bg_dX6_isPack_0 14 182 rfl) (bg_dX6_isPack_0 15 1 rfl) (bg_dX6_isPack_0 16 26 rfl)
theorem dX6_isPack_17 : decode cX6_isPack 17 = .ok (.iconst 1, 1) := o_4 (bg_dX6_isPack_0 17 4 rfl)
theorem dX6_isPack_18 : decode cX6_isPack 18 = .ok (.isub, 1) := o_100 (bg_dX6_isPack_0 18 100 rfl)
theorem dX6_isPack_19 : decode cX6_isPack 19 = .ok (.invokestatic 66, 3) := o_184 (bg_dX6_isPack_0 19 184 rfl) (bg_dX6_isPack_0 20 0 rfl) (bg_dX6_isPack_0 21 66 rfl)
theorem dX6_isPack_22 : decode cX6_isPack 22 = .ok (.ifCond .eq 7, 3) := o_153 (bg_dX6_isPack_0 22 153 rfl) (bg_dX6_isPack_0 23 0 rfl) (bg_dX6_isPack_0 24 7 rfl) (by decide +kernel)
theorem dX6_isPack_25 : decode cX6_isPack 25 = .ok (.iconst 1, 1) := o_4 (bg_dX6_isPack_0 25 4 rfl)
theorem bg_dX6_isPack_26 : bysAt cX6_isPack 26 [167, 0, 4, 3, 172] := bysAt_of (by decide +kernel)
theorem dX6_isPack_26 : decode cX6_isPack 26 = .ok (.goto 4, 3) := o_167 (bg_dX6_isPack_26 0 167 rfl) (bg_dX6_isPack_26 1 0 rfl) (bg_dX6_isPack_26 2 4 rfl) (by decide +kernel)
theorem dX6_isPack_29 : decode cX6_isPack 29 = .ok (.iconst 0, 1) := o_3 (bg_dX6_isPack_26 3 3 rfl)
theorem dX6_isPack_30 : decode cX6_isPack 30 = .ok (.ireturn, 1) := o_172 (bg_dX6_isPack_26 4 172 rfl)
theorem bg_dX6_isRoad_0 : bysAt cX6_isRoad 0 [27, 3, 42, 180, 0, 10, 180, 1, 17, 3, 46, 4, 100, 184, 0, 66, 172] := bysAt_of (by decide +kernel)
theorem dX6_isRoad_0 : decode cX6_isRoad 0 = .ok (.iload_n 1, 1) := o_27 (bg_dX6_isRoad_0 0 27 rfl)
theorem dX6_isRoad_1 : decode cX6_isRoad 1 = .ok (.iconst 0, 1) := o_3 (bg_dX6_isRoad_0 1 3 rfl)
theorem dX6_isRoad_2 : decode cX6_isRoad 2 = .ok (.aload_n 0, 1) := o_42 (bg_dX6_isRoad_0 2 42 rfl)
theorem dX6_isRoad_3 : decode cX6_isRoad 3 = .ok (.getfield 10, 3) := o_180 (bg_dX6_isRoad_0 3 180 rfl) (bg_dX6_isRoad_0 4 0 rfl) (bg_dX6_isRoad_0 5 10 rfl)
theorem dX6_isRoad_6 : decode cX6_isRoad 6 = .ok (.getfield 273, 3) := o_180 (bg_dX6_isRoad_0 6 180 rfl) (bg_dX6_isRoad_0 7 1 rfl) (bg_dX6_isRoad_0 8 17 rfl)
theorem dX6_isRoad_9 : decode cX6_isRoad 9 = .ok (.iconst 0, 1) := o_3 (bg_dX6_isRoad_0 9 3 rfl)
theorem dX6_isRoad_10 : decode cX6_isRoad 10 = .ok (.iaload, 1) := o_46 (bg_dX6_isRoad_0 10 46 rfl)
theorem dX6_isRoad_11 : decode cX6_isRoad 11 = .ok (.iconst 1, 1) := o_4 (bg_dX6_isRoad_0 11 4 rfl)
theorem dX6_isRoad_12 : decode cX6_isRoad 12 = .ok (.isub, 1) := o_100 (bg_dX6_isRoad_0 12 100 rfl)
theorem dX6_isRoad_13 : decode cX6_isRoad 13 = .ok (.invokestatic 66, 3) := o_184 (bg_dX6_isRoad_0 13 184 rfl) (bg_dX6_isRoad_0 14 0 rfl) (bg_dX6_isRoad_0 15 66 rfl)
theorem dX6_isRoad_16 : decode cX6_isRoad 16 = .ok (.ireturn, 1) := o_172 (bg_dX6_isRoad_0 16 172 rfl)
theorem bg_dX6_isWaggon_0 : bysAt cX6_isWaggon 0 [27, 3, 42, 180, 0, 10, 180, 1, 17, 5, 46, 4, 100, 184, 0, 66, 172] := bysAt_of (by decide +kernel)
theorem dX6_isWaggon_0 : decode cX6_isWaggon 0 = .ok (.iload_n 1, 1) := o_27 (bg_dX6_isWaggon_0 0 27 rfl)
theorem dX6_isWaggon_1 : decode cX6_isWaggon 1 = .ok (.iconst 0, 1) := o_3 (bg_dX6_isWaggon_0 1 3 rfl)
theorem dX6_isWaggon_2 : decode cX6_isWaggon 2 = .ok (.aload_n 0, 1) := o_42 (bg_dX6_isWaggon_0 2 42 rfl)
theorem dX6_isWaggon_3 : decode cX6_isWaggon 3 = .ok (.getfield 10, 3) := o_180 (bg_dX6_isWaggon_0 3 180 rfl) (bg_dX6_isWaggon_0 4 0 rfl) (bg_dX6_isWaggon_0 5 10 rfl)
theorem dX6_isWaggon_6 : decode cX6_isWaggon 6 = .ok (.getfield 273, 3) := o_180 (bg_dX6_isWaggon_0 6 180 rfl) (bg_dX6_isWaggon_0 7 1 rfl) (bg_dX6_isWaggon_0 8 17 rfl)
theorem dX6_isWaggon_9 : decode cX6_isWaggon 9 = .ok (.iconst 2, 1) := o_5 (bg_dX6_isWaggon_0 9 5 rfl)
theorem dX6_isWaggon_10 : decode cX6_isWaggon 10 = .ok (.iaload, 1) := o_46 (bg_dX6_isWaggon_0 10 46 rfl)
theorem dX6_isWaggon_11 : decode cX6_isWaggon 11 = .ok (.iconst 1, 1) := o_4 (bg_dX6_isWaggon_0 11 4 rfl)
theorem dX6_isWaggon_12 : decode cX6_isWaggon 12 = .ok (.isub, 1) := o_100 (bg_dX6_isWaggon_0 12 100 rfl)
theorem dX6_isWaggon_13 : decode cX6_isWaggon 13 = .ok (.invokestatic 66, 3) := o_184 (bg_dX6_isWaggon_0 13 184 rfl) (bg_dX6_isWaggon_0 14 0 rfl) (bg_dX6_isWaggon_0 15 66 rfl)
theorem dX6_isWaggon_16 : decode cX6_isWaggon 16 = .ok (.ireturn, 1) := o_172 (bg_dX6_isWaggon_0 16 172 rfl)
theorem bg_dX6_orStuck_0 : bysAt cX6_orStuck 0 [27, 18, 255, 160, 0, 12, 42, 16, 251, 182, 0, 70, 167, 0, 4, 27, 172] := bysAt_of (by decide +kernel)
theorem dX6_orStuck_0 : decode cX6_orStuck 0 = .ok (.iload_n 1, 1) := o_27 (bg_dX6_orStuck_0 0 27 rfl)
theorem dX6_orStuck_1 : decode cX6_orStuck 1 = .ok (.ldc 255, 2) := o_18 (bg_dX6_orStuck_0 1 18 rfl) (bg_dX6_orStuck_0 2 255 rfl)
theorem dX6_orStuck_3 : decode cX6_orStuck 3 = .ok (.if_icmp .ne 12, 3) := o_160 (bg_dX6_orStuck_0 3 160 rfl) (bg_dX6_orStuck_0 4 0 rfl) (bg_dX6_orStuck_0 5 12 rfl) (by decide +kernel)
theorem dX6_orStuck_6 : decode cX6_orStuck 6 = .ok (.aload_n 0, 1) := o_42 (bg_dX6_orStuck_0 6 42 rfl)
theorem dX6_orStuck_7 : decode cX6_orStuck 7 = .ok (.bipush (-5), 2) := o_16 (bg_dX6_orStuck_0 7 16 rfl) (bg_dX6_orStuck_0 8 251 rfl) (by decide +kernel)
theorem dX6_orStuck_9 : decode cX6_orStuck 9 = .ok (.invokevirtual 70, 3) := o_182 (bg_dX6_orStuck_0 9 182 rfl) (bg_dX6_orStuck_0 10 0 rfl) (bg_dX6_orStuck_0 11 70 rfl)
theorem dX6_orStuck_12 : decode cX6_orStuck 12 = .ok (.goto 4, 3) := o_167 (bg_dX6_orStuck_0 12 167 rfl) (bg_dX6_orStuck_0 13 0 rfl) (bg_dX6_orStuck_0 14 4 rfl) (by decide +kernel)
theorem dX6_orStuck_15 : decode cX6_orStuck 15 = .ok (.iload_n 1, 1) := o_27 (bg_dX6_orStuck_0 15 27 rfl)
theorem dX6_orStuck_16 : decode cX6_orStuck 16 = .ok (.ireturn, 1) := o_172 (bg_dX6_orStuck_0 16 172 rfl)
theorem bg_dX6_refuse_0 : bysAt cX6_refuse 0 [16, 254, 27, 100, 61, 28, 3, 7, 184, 0, 66, 153, 0, 13, 42, 180, 0, 55, 28, 92, 46] := bysAt_of (by decide +kernel)
theorem dX6_refuse_0 : decode cX6_refuse 0 = .ok (.bipush (-2), 2) := o_16 (bg_dX6_refuse_0 0 16 rfl) (bg_dX6_refuse_0 1 254 rfl) (by decide +kernel)
theorem dX6_refuse_2 : decode cX6_refuse 2 = .ok (.iload_n 1, 1) := o_27 (bg_dX6_refuse_0 2 27 rfl)
theorem dX6_refuse_3 : decode cX6_refuse 3 = .ok (.isub, 1) := o_100 (bg_dX6_refuse_0 3 100 rfl)
theorem dX6_refuse_4 : decode cX6_refuse 4 = .ok (.istore_n 2, 1) := o_61 (bg_dX6_refuse_0 4 61 rfl)
theorem dX6_refuse_5 : decode cX6_refuse 5 = .ok (.iload_n 2, 1) := o_28 (bg_dX6_refuse_0 5 28 rfl)
theorem dX6_refuse_6 : decode cX6_refuse 6 = .ok (.iconst 0, 1) := o_3 (bg_dX6_refuse_0 6 3 rfl)
theorem dX6_refuse_7 : decode cX6_refuse 7 = .ok (.iconst 4, 1) := o_7 (bg_dX6_refuse_0 7 7 rfl)
theorem dX6_refuse_8 : decode cX6_refuse 8 = .ok (.invokestatic 66, 3) := o_184 (bg_dX6_refuse_0 8 184 rfl) (bg_dX6_refuse_0 9 0 rfl) (bg_dX6_refuse_0 10 66 rfl)
theorem dX6_refuse_11 : decode cX6_refuse 11 = .ok (.ifCond .eq 13, 3) := o_153 (bg_dX6_refuse_0 11 153 rfl) (bg_dX6_refuse_0 12 0 rfl) (bg_dX6_refuse_0 13 13 rfl) (by decide +kernel)
theorem dX6_refuse_14 : decode cX6_refuse 14 = .ok (.aload_n 0, 1) := o_42 (bg_dX6_refuse_0 14 42 rfl)
theorem dX6_refuse_15 : decode cX6_refuse 15 = .ok (.getfield 55, 3) := o_180 (bg_dX6_refuse_0 15 180 rfl) (bg_dX6_refuse_0 16 0 rfl) (bg_dX6_refuse_0 17 55 rfl)
theorem dX6_refuse_18 : decode cX6_refuse 18 = .ok (.iload_n 2, 1) := o_28 (bg_dX6_refuse_0 18 28 rfl)
theorem dX6_refuse_19 : decode cX6_refuse 19 = .ok (.dup2, 1) := o_92 (bg_dX6_refuse_0 19 92 rfl)
theorem dX6_refuse_20 : decode cX6_refuse 20 = .ok (.iaload, 1) := o_46 (bg_dX6_refuse_0 20 46 rfl)
theorem bg_dX6_refuse_21 : bysAt cX6_refuse 21 [4, 96, 79, 27, 172] := bysAt_of (by decide +kernel)
theorem dX6_refuse_21 : decode cX6_refuse 21 = .ok (.iconst 1, 1) := o_4 (bg_dX6_refuse_21 0 4 rfl)
theorem dX6_refuse_22 : decode cX6_refuse 22 = .ok (.iadd, 1) := o_96 (bg_dX6_refuse_21 1 96 rfl)
theorem dX6_refuse_23 : decode cX6_refuse 23 = .ok (.iastore, 1) := o_79 (bg_dX6_refuse_21 2 79 rfl)
theorem dX6_refuse_24 : decode cX6_refuse 24 = .ok (.iload_n 1, 1) := o_27 (bg_dX6_refuse_21 3 27 rfl)
theorem dX6_refuse_25 : decode cX6_refuse 25 = .ok (.ireturn, 1) := o_172 (bg_dX6_refuse_21 4 172 rfl)
theorem bg_dX6_spoken_0 : bysAt cX6_spoken 0 [28] := bysAt_of (by decide +kernel)
theorem dX6_spoken_0 : decode cX6_spoken 0 = .ok (.iload_n 2, 1) := o_28 (bg_dX6_spoken_0 0 28 rfl)
theorem bg_dX6_spoken_36 : bysAt cX6_spoken 36 [42, 180, 0, 10, 27, 3, 182, 0, 159, 172, 42, 180, 0, 10, 27, 182, 0, 191, 172, 42, 180, 0, 10, 27] := bysAt_of (by decide +kernel)
theorem dX6_spoken_36 : decode cX6_spoken 36 = .ok (.aload_n 0, 1) := o_42 (bg_dX6_spoken_36 0 42 rfl)
theorem dX6_spoken_37 : decode cX6_spoken 37 = .ok (.getfield 10, 3) := o_180 (bg_dX6_spoken_36 1 180 rfl) (bg_dX6_spoken_36 2 0 rfl) (bg_dX6_spoken_36 3 10 rfl)
theorem dX6_spoken_40 : decode cX6_spoken 40 = .ok (.iload_n 1, 1) := o_27 (bg_dX6_spoken_36 4 27 rfl)
theorem dX6_spoken_41 : decode cX6_spoken 41 = .ok (.iconst 0, 1) := o_3 (bg_dX6_spoken_36 5 3 rfl)
theorem dX6_spoken_42 : decode cX6_spoken 42 = .ok (.invokevirtual 159, 3) := o_182 (bg_dX6_spoken_36 6 182 rfl) (bg_dX6_spoken_36 7 0 rfl) (bg_dX6_spoken_36 8 159 rfl)
theorem dX6_spoken_45 : decode cX6_spoken 45 = .ok (.ireturn, 1) := o_172 (bg_dX6_spoken_36 9 172 rfl)
theorem dX6_spoken_46 : decode cX6_spoken 46 = .ok (.aload_n 0, 1) := o_42 (bg_dX6_spoken_36 10 42 rfl)
theorem dX6_spoken_47 : decode cX6_spoken 47 = .ok (.getfield 10, 3) := o_180 (bg_dX6_spoken_36 11 180 rfl) (bg_dX6_spoken_36 12 0 rfl) (bg_dX6_spoken_36 13 10 rfl)
theorem dX6_spoken_50 : decode cX6_spoken 50 = .ok (.iload_n 1, 1) := o_27 (bg_dX6_spoken_36 14 27 rfl)
theorem dX6_spoken_51 : decode cX6_spoken 51 = .ok (.invokevirtual 191, 3) := o_182 (bg_dX6_spoken_36 15 182 rfl) (bg_dX6_spoken_36 16 0 rfl) (bg_dX6_spoken_36 17 191 rfl)
theorem dX6_spoken_54 : decode cX6_spoken 54 = .ok (.ireturn, 1) := o_172 (bg_dX6_spoken_36 18 172 rfl)
theorem dX6_spoken_55 : decode cX6_spoken 55 = .ok (.aload_n 0, 1) := o_42 (bg_dX6_spoken_36 19 42 rfl)
theorem dX6_spoken_56 : decode cX6_spoken 56 = .ok (.getfield 10, 3) := o_180 (bg_dX6_spoken_36 20 180 rfl) (bg_dX6_spoken_36 21 0 rfl) (bg_dX6_spoken_36 22 10 rfl)
theorem dX6_spoken_59 : decode cX6_spoken 59 = .ok (.iload_n 1, 1) := o_27 (bg_dX6_spoken_36 23 27 rfl)
theorem bg_dX6_spoken_60 : bysAt cX6_spoken 60 [5, 182, 0, 159, 172, 42, 180, 0, 10, 27, 16, 9, 182, 0, 159, 172, 42, 180, 0, 10, 27, 42, 180, 0, 10] := bysAt_of (by decide +kernel)
theorem dX6_spoken_60 : decode cX6_spoken 60 = .ok (.iconst 2, 1) := o_5 (bg_dX6_spoken_60 0 5 rfl)
theorem dX6_spoken_61 : decode cX6_spoken 61 = .ok (.invokevirtual 159, 3) := o_182 (bg_dX6_spoken_60 1 182 rfl) (bg_dX6_spoken_60 2 0 rfl) (bg_dX6_spoken_60 3 159 rfl)
theorem dX6_spoken_64 : decode cX6_spoken 64 = .ok (.ireturn, 1) := o_172 (bg_dX6_spoken_60 4 172 rfl)
theorem dX6_spoken_65 : decode cX6_spoken 65 = .ok (.aload_n 0, 1) := o_42 (bg_dX6_spoken_60 5 42 rfl)
theorem dX6_spoken_66 : decode cX6_spoken 66 = .ok (.getfield 10, 3) := o_180 (bg_dX6_spoken_60 6 180 rfl) (bg_dX6_spoken_60 7 0 rfl) (bg_dX6_spoken_60 8 10 rfl)
theorem dX6_spoken_69 : decode cX6_spoken 69 = .ok (.iload_n 1, 1) := o_27 (bg_dX6_spoken_60 9 27 rfl)
theorem dX6_spoken_70 : decode cX6_spoken 70 = .ok (.bipush 9, 2) := o_16 (bg_dX6_spoken_60 10 16 rfl) (bg_dX6_spoken_60 11 9 rfl) (by decide +kernel)
theorem dX6_spoken_72 : decode cX6_spoken 72 = .ok (.invokevirtual 159, 3) := o_182 (bg_dX6_spoken_60 12 182 rfl) (bg_dX6_spoken_60 13 0 rfl) (bg_dX6_spoken_60 14 159 rfl)
theorem dX6_spoken_75 : decode cX6_spoken 75 = .ok (.ireturn, 1) := o_172 (bg_dX6_spoken_60 15 172 rfl)
theorem dX6_spoken_76 : decode cX6_spoken 76 = .ok (.aload_n 0, 1) := o_42 (bg_dX6_spoken_60 16 42 rfl)
theorem dX6_spoken_77 : decode cX6_spoken 77 = .ok (.getfield 10, 3) := o_180 (bg_dX6_spoken_60 17 180 rfl) (bg_dX6_spoken_60 18 0 rfl) (bg_dX6_spoken_60 19 10 rfl)
theorem dX6_spoken_80 : decode cX6_spoken 80 = .ok (.iload_n 1, 1) := o_27 (bg_dX6_spoken_60 20 27 rfl)
theorem dX6_spoken_81 : decode cX6_spoken 81 = .ok (.aload_n 0, 1) := o_42 (bg_dX6_spoken_60 21 42 rfl)
theorem dX6_spoken_82 : decode cX6_spoken 82 = .ok (.getfield 10, 3) := o_180 (bg_dX6_spoken_60 22 180 rfl) (bg_dX6_spoken_60 23 0 rfl) (bg_dX6_spoken_60 24 10 rfl)
theorem bg_dX6_spoken_85 : bysAt cX6_spoken 85 [27, 182, 0, 184, 182, 0, 187, 172] := bysAt_of (by decide +kernel)
theorem dX6_spoken_85 : decode cX6_spoken 85 = .ok (.iload_n 1, 1) := o_27 (bg_dX6_spoken_85 0 27 rfl)
theorem dX6_spoken_86 : decode cX6_spoken 86 = .ok (.invokevirtual 184, 3) := o_182 (bg_dX6_spoken_85 1 182 rfl) (bg_dX6_spoken_85 2 0 rfl) (bg_dX6_spoken_85 3 184 rfl)
theorem dX6_spoken_89 : decode cX6_spoken 89 = .ok (.invokevirtual 187, 3) := o_182 (bg_dX6_spoken_85 4 182 rfl) (bg_dX6_spoken_85 5 0 rfl) (bg_dX6_spoken_85 6 187 rfl)
theorem dX6_spoken_92 : decode cX6_spoken 92 = .ok (.ireturn, 1) := o_172 (bg_dX6_spoken_85 7 172 rfl)
theorem bg_dX6_whyNoRow_0 : bysAt cX6_whyNoRow 0 [27, 184, 0, 62, 154, 0, 6, 16, 254, 172, 42, 180, 0, 35, 27, 182, 0, 88, 153, 0, 6, 16, 253, 172, 42, 180, 0, 35] := bysAt_of (by decide +kernel)
theorem dX6_whyNoRow_0 : decode cX6_whyNoRow 0 = .ok (.iload_n 1, 1) := o_27 (bg_dX6_whyNoRow_0 0 27 rfl)
theorem dX6_whyNoRow_1 : decode cX6_whyNoRow 1 = .ok (.invokestatic 62, 3) := o_184 (bg_dX6_whyNoRow_0 1 184 rfl) (bg_dX6_whyNoRow_0 2 0 rfl) (bg_dX6_whyNoRow_0 3 62 rfl)
theorem dX6_whyNoRow_4 : decode cX6_whyNoRow 4 = .ok (.ifCond .ne 6, 3) := o_154 (bg_dX6_whyNoRow_0 4 154 rfl) (bg_dX6_whyNoRow_0 5 0 rfl) (bg_dX6_whyNoRow_0 6 6 rfl) (by decide +kernel)
theorem dX6_whyNoRow_7 : decode cX6_whyNoRow 7 = .ok (.bipush (-2), 2) := o_16 (bg_dX6_whyNoRow_0 7 16 rfl) (bg_dX6_whyNoRow_0 8 254 rfl) (by decide +kernel)
theorem dX6_whyNoRow_9 : decode cX6_whyNoRow 9 = .ok (.ireturn, 1) := o_172 (bg_dX6_whyNoRow_0 9 172 rfl)
theorem dX6_whyNoRow_10 : decode cX6_whyNoRow 10 = .ok (.aload_n 0, 1) := o_42 (bg_dX6_whyNoRow_0 10 42 rfl)
theorem dX6_whyNoRow_11 : decode cX6_whyNoRow 11 = .ok (.getfield 35, 3) := o_180 (bg_dX6_whyNoRow_0 11 180 rfl) (bg_dX6_whyNoRow_0 12 0 rfl) (bg_dX6_whyNoRow_0 13 35 rfl)
theorem dX6_whyNoRow_14 : decode cX6_whyNoRow 14 = .ok (.iload_n 1, 1) := o_27 (bg_dX6_whyNoRow_0 14 27 rfl)
theorem dX6_whyNoRow_15 : decode cX6_whyNoRow 15 = .ok (.invokevirtual 88, 3) := o_182 (bg_dX6_whyNoRow_0 15 182 rfl) (bg_dX6_whyNoRow_0 16 0 rfl) (bg_dX6_whyNoRow_0 17 88 rfl)
theorem dX6_whyNoRow_18 : decode cX6_whyNoRow 18 = .ok (.ifCond .eq 6, 3) := o_153 (bg_dX6_whyNoRow_0 18 153 rfl) (bg_dX6_whyNoRow_0 19 0 rfl) (bg_dX6_whyNoRow_0 20 6 rfl) (by decide +kernel)
theorem dX6_whyNoRow_21 : decode cX6_whyNoRow 21 = .ok (.bipush (-3), 2) := o_16 (bg_dX6_whyNoRow_0 21 16 rfl) (bg_dX6_whyNoRow_0 22 253 rfl) (by decide +kernel)
theorem dX6_whyNoRow_23 : decode cX6_whyNoRow 23 = .ok (.ireturn, 1) := o_172 (bg_dX6_whyNoRow_0 23 172 rfl)
theorem dX6_whyNoRow_24 : decode cX6_whyNoRow 24 = .ok (.aload_n 0, 1) := o_42 (bg_dX6_whyNoRow_0 24 42 rfl)
theorem dX6_whyNoRow_25 : decode cX6_whyNoRow 25 = .ok (.getfield 35, 3) := o_180 (bg_dX6_whyNoRow_0 25 180 rfl) (bg_dX6_whyNoRow_0 26 0 rfl) (bg_dX6_whyNoRow_0 27 35 rfl)
theorem bg_dX6_whyNoRow_28 : bysAt cX6_whyNoRow 28 [27, 182, 0, 95, 153, 0, 8, 16, 252, 167, 0, 4, 3, 172] := bysAt_of (by decide +kernel)
theorem dX6_whyNoRow_28 : decode cX6_whyNoRow 28 = .ok (.iload_n 1, 1) := o_27 (bg_dX6_whyNoRow_28 0 27 rfl)
theorem dX6_whyNoRow_29 : decode cX6_whyNoRow 29 = .ok (.invokevirtual 95, 3) := o_182 (bg_dX6_whyNoRow_28 1 182 rfl) (bg_dX6_whyNoRow_28 2 0 rfl) (bg_dX6_whyNoRow_28 3 95 rfl)
theorem dX6_whyNoRow_32 : decode cX6_whyNoRow 32 = .ok (.ifCond .eq 8, 3) := o_153 (bg_dX6_whyNoRow_28 4 153 rfl) (bg_dX6_whyNoRow_28 5 0 rfl) (bg_dX6_whyNoRow_28 6 8 rfl) (by decide +kernel)
theorem dX6_whyNoRow_35 : decode cX6_whyNoRow 35 = .ok (.bipush (-4), 2) := o_16 (bg_dX6_whyNoRow_28 7 16 rfl) (bg_dX6_whyNoRow_28 8 252 rfl) (by decide +kernel)
theorem dX6_whyNoRow_37 : decode cX6_whyNoRow 37 = .ok (.goto 4, 3) := o_167 (bg_dX6_whyNoRow_28 9 167 rfl) (bg_dX6_whyNoRow_28 10 0 rfl) (bg_dX6_whyNoRow_28 11 4 rfl) (by decide +kernel)
theorem dX6_whyNoRow_40 : decode cX6_whyNoRow 40 = .ok (.iconst 0, 1) := o_3 (bg_dX6_whyNoRow_28 12 3 rfl)
theorem dX6_whyNoRow_41 : decode cX6_whyNoRow 41 = .ok (.ireturn, 1) := o_172 (bg_dX6_whyNoRow_28 13 172 rfl)
theorem bg_dX6_whyNotTold_0 : bysAt cX6_whyNotTold 0 [42, 27, 28, 182, 0, 200, 153, 0, 29, 29, 184, 0, 126, 153, 0, 22, 21, 4, 184, 0, 62, 153, 0, 14, 21, 5, 3, 16, 20] := bysAt_of (by decide +kernel)
theorem dX6_whyNotTold_0 : decode cX6_whyNotTold 0 = .ok (.aload_n 0, 1) := o_42 (bg_dX6_whyNotTold_0 0 42 rfl)
theorem dX6_whyNotTold_1 : decode cX6_whyNotTold 1 = .ok (.iload_n 1, 1) := o_27 (bg_dX6_whyNotTold_0 1 27 rfl)
theorem dX6_whyNotTold_2 : decode cX6_whyNotTold 2 = .ok (.iload_n 2, 1) := o_28 (bg_dX6_whyNotTold_0 2 28 rfl)
theorem dX6_whyNotTold_3 : decode cX6_whyNotTold 3 = .ok (.invokevirtual 200, 3) := o_182 (bg_dX6_whyNotTold_0 3 182 rfl) (bg_dX6_whyNotTold_0 4 0 rfl) (bg_dX6_whyNotTold_0 5 200 rfl)
theorem dX6_whyNotTold_6 : decode cX6_whyNotTold 6 = .ok (.ifCond .eq 29, 3) := o_153 (bg_dX6_whyNotTold_0 6 153 rfl) (bg_dX6_whyNotTold_0 7 0 rfl) (bg_dX6_whyNotTold_0 8 29 rfl) (by decide +kernel)
theorem dX6_whyNotTold_9 : decode cX6_whyNotTold 9 = .ok (.iload_n 3, 1) := o_29 (bg_dX6_whyNotTold_0 9 29 rfl)
theorem dX6_whyNotTold_10 : decode cX6_whyNotTold 10 = .ok (.invokestatic 126, 3) := o_184 (bg_dX6_whyNotTold_0 10 184 rfl) (bg_dX6_whyNotTold_0 11 0 rfl) (bg_dX6_whyNotTold_0 12 126 rfl)
theorem dX6_whyNotTold_13 : decode cX6_whyNotTold 13 = .ok (.ifCond .eq 22, 3) := o_153 (bg_dX6_whyNotTold_0 13 153 rfl) (bg_dX6_whyNotTold_0 14 0 rfl) (bg_dX6_whyNotTold_0 15 22 rfl) (by decide +kernel)
theorem dX6_whyNotTold_16 : decode cX6_whyNotTold 16 = .ok (.iload 4, 2) := o_21 (bg_dX6_whyNotTold_0 16 21 rfl) (bg_dX6_whyNotTold_0 17 4 rfl)
theorem dX6_whyNotTold_18 : decode cX6_whyNotTold 18 = .ok (.invokestatic 62, 3) := o_184 (bg_dX6_whyNotTold_0 18 184 rfl) (bg_dX6_whyNotTold_0 19 0 rfl) (bg_dX6_whyNotTold_0 20 62 rfl)
theorem dX6_whyNotTold_21 : decode cX6_whyNotTold 21 = .ok (.ifCond .eq 14, 3) := o_153 (bg_dX6_whyNotTold_0 21 153 rfl) (bg_dX6_whyNotTold_0 22 0 rfl) (bg_dX6_whyNotTold_0 23 14 rfl) (by decide +kernel)
theorem dX6_whyNotTold_24 : decode cX6_whyNotTold 24 = .ok (.iload 5, 2) := o_21 (bg_dX6_whyNotTold_0 24 21 rfl) (bg_dX6_whyNotTold_0 25 5 rfl)
theorem dX6_whyNotTold_26 : decode cX6_whyNotTold 26 = .ok (.iconst 0, 1) := o_3 (bg_dX6_whyNotTold_0 26 3 rfl)
theorem dX6_whyNotTold_27 : decode cX6_whyNotTold 27 = .ok (.bipush 20, 2) := o_16 (bg_dX6_whyNotTold_0 27 16 rfl) (bg_dX6_whyNotTold_0 28 20 rfl) (by decide +kernel)
theorem bg_dX6_whyNotTold_29 : bysAt cX6_whyNotTold 29 [184, 0, 66, 154, 0, 6, 16, 254, 172, 42, 21, 4, 182, 0, 78, 54, 6, 21, 6, 153, 0, 6, 21, 6, 172, 21, 5, 42] := bysAt_of (by decide +kernel)
theorem dX6_whyNotTold_29 : decode cX6_whyNotTold 29 = .ok (.invokestatic 66, 3) := o_184 (bg_dX6_whyNotTold_29 0 184 rfl) (bg_dX6_whyNotTold_29 1 0 rfl) (bg_dX6_whyNotTold_29 2 66 rfl)
theorem dX6_whyNotTold_32 : decode cX6_whyNotTold 32 = .ok (.ifCond .ne 6, 3) := o_154 (bg_dX6_whyNotTold_29 3 154 rfl) (bg_dX6_whyNotTold_29 4 0 rfl) (bg_dX6_whyNotTold_29 5 6 rfl) (by decide +kernel)
theorem dX6_whyNotTold_35 : decode cX6_whyNotTold 35 = .ok (.bipush (-2), 2) := o_16 (bg_dX6_whyNotTold_29 6 16 rfl) (bg_dX6_whyNotTold_29 7 254 rfl) (by decide +kernel)
theorem dX6_whyNotTold_37 : decode cX6_whyNotTold 37 = .ok (.ireturn, 1) := o_172 (bg_dX6_whyNotTold_29 8 172 rfl)
theorem dX6_whyNotTold_38 : decode cX6_whyNotTold 38 = .ok (.aload_n 0, 1) := o_42 (bg_dX6_whyNotTold_29 9 42 rfl)
theorem dX6_whyNotTold_39 : decode cX6_whyNotTold 39 = .ok (.iload 4, 2) := o_21 (bg_dX6_whyNotTold_29 10 21 rfl) (bg_dX6_whyNotTold_29 11 4 rfl)
theorem dX6_whyNotTold_41 : decode cX6_whyNotTold 41 = .ok (.invokevirtual 78, 3) := o_182 (bg_dX6_whyNotTold_29 12 182 rfl) (bg_dX6_whyNotTold_29 13 0 rfl) (bg_dX6_whyNotTold_29 14 78 rfl)
theorem dX6_whyNotTold_44 : decode cX6_whyNotTold 44 = .ok (.istore 6, 2) := o_54 (bg_dX6_whyNotTold_29 15 54 rfl) (bg_dX6_whyNotTold_29 16 6 rfl)
theorem dX6_whyNotTold_46 : decode cX6_whyNotTold 46 = .ok (.iload 6, 2) := o_21 (bg_dX6_whyNotTold_29 17 21 rfl) (bg_dX6_whyNotTold_29 18 6 rfl)
theorem dX6_whyNotTold_48 : decode cX6_whyNotTold 48 = .ok (.ifCond .eq 6, 3) := o_153 (bg_dX6_whyNotTold_29 19 153 rfl) (bg_dX6_whyNotTold_29 20 0 rfl) (bg_dX6_whyNotTold_29 21 6 rfl) (by decide +kernel)
theorem dX6_whyNotTold_51 : decode cX6_whyNotTold 51 = .ok (.iload 6, 2) := o_21 (bg_dX6_whyNotTold_29 22 21 rfl) (bg_dX6_whyNotTold_29 23 6 rfl)
theorem dX6_whyNotTold_53 : decode cX6_whyNotTold 53 = .ok (.ireturn, 1) := o_172 (bg_dX6_whyNotTold_29 24 172 rfl)
theorem dX6_whyNotTold_54 : decode cX6_whyNotTold 54 = .ok (.iload 5, 2) := o_21 (bg_dX6_whyNotTold_29 25 21 rfl) (bg_dX6_whyNotTold_29 26 5 rfl)
theorem dX6_whyNotTold_56 : decode cX6_whyNotTold 56 = .ok (.aload_n 0, 1) := o_42 (bg_dX6_whyNotTold_29 27 42 rfl)
theorem bg_dX6_whyNotTold_57 : bysAt cX6_whyNotTold 57 [180, 0, 35, 180, 0, 81, 21, 4, 46, 164, 0, 8, 16, 254, 167, 0, 4, 3, 172] := bysAt_of (by decide +kernel)
theorem dX6_whyNotTold_57 : decode cX6_whyNotTold 57 = .ok (.getfield 35, 3) := o_180 (bg_dX6_whyNotTold_57 0 180 rfl) (bg_dX6_whyNotTold_57 1 0 rfl) (bg_dX6_whyNotTold_57 2 35 rfl)
theorem dX6_whyNotTold_60 : decode cX6_whyNotTold 60 = .ok (.getfield 81, 3) := o_180 (bg_dX6_whyNotTold_57 3 180 rfl) (bg_dX6_whyNotTold_57 4 0 rfl) (bg_dX6_whyNotTold_57 5 81 rfl)
theorem dX6_whyNotTold_63 : decode cX6_whyNotTold 63 = .ok (.iload 4, 2) := o_21 (bg_dX6_whyNotTold_57 6 21 rfl) (bg_dX6_whyNotTold_57 7 4 rfl)
theorem dX6_whyNotTold_65 : decode cX6_whyNotTold 65 = .ok (.iaload, 1) := o_46 (bg_dX6_whyNotTold_57 8 46 rfl)
theorem dX6_whyNotTold_66 : decode cX6_whyNotTold 66 = .ok (.if_icmp .le 8, 3) := o_164 (bg_dX6_whyNotTold_57 9 164 rfl) (bg_dX6_whyNotTold_57 10 0 rfl) (bg_dX6_whyNotTold_57 11 8 rfl) (by decide +kernel)
theorem dX6_whyNotTold_69 : decode cX6_whyNotTold 69 = .ok (.bipush (-2), 2) := o_16 (bg_dX6_whyNotTold_57 12 16 rfl) (bg_dX6_whyNotTold_57 13 254 rfl) (by decide +kernel)
theorem dX6_whyNotTold_71 : decode cX6_whyNotTold 71 = .ok (.goto 4, 3) := o_167 (bg_dX6_whyNotTold_57 14 167 rfl) (bg_dX6_whyNotTold_57 15 0 rfl) (bg_dX6_whyNotTold_57 16 4 rfl) (by decide +kernel)
theorem dX6_whyNotTold_74 : decode cX6_whyNotTold 74 = .ok (.iconst 0, 1) := o_3 (bg_dX6_whyNotTold_57 17 3 rfl)
theorem dX6_whyNotTold_75 : decode cX6_whyNotTold 75 = .ok (.ireturn, 1) := o_172 (bg_dX6_whyNotTold_57 18 172 rfl)
theorem pdVX0_setsOfParts : yX0_setsOfParts.cls = RX0 ∧ yX0_setsOfParts.cls ≠ "java/lang/invoke/MethodHandle" ∧ yX0_setsOfParts.cls ≠ "java/lang/invoke/VarHandle" ∧ (parseMethodDescriptor yX0_setsOfParts.desc).map (fun d => d.parameters.length) = some 0 := by decide +kernel
theorem pdVX3_elementAt : yX3_elementAt.cls = RX3 ∧ yX3_elementAt.cls ≠ "java/lang/invoke/MethodHandle" ∧ yX3_elementAt.cls ≠ "java/lang/invoke/VarHandle" ∧ (parseMethodDescriptor yX3_elementAt.desc).map (fun d => d.parameters.length) = some 2 := by decide +kernel
theorem pdVX5_leastCoin : yX5_leastCoin.cls = RX5 ∧ yX5_leastCoin.cls ≠ "java/lang/invoke/MethodHandle" ∧ yX5_leastCoin.cls ≠ "java/lang/invoke/VarHandle" ∧ (parseMethodDescriptor yX5_leastCoin.desc).map (fun d => d.parameters.length) = some 5 := by decide +kernel
theorem pdVX5_setOut : yX5_setOut.cls = RX5 ∧ yX5_setOut.cls ≠ "java/lang/invoke/MethodHandle" ∧ yX5_setOut.cls ≠ "java/lang/invoke/VarHandle" ∧ (parseMethodDescriptor yX5_setOut.desc).map (fun d => d.parameters.length) = some 1 := by decide +kernel
theorem pdVX5_walk : yX5_walk.cls = RX5 ∧ yX5_walk.cls ≠ "java/lang/invoke/MethodHandle" ∧ yX5_walk.cls ≠ "java/lang/invoke/VarHandle" ∧ (parseMethodDescriptor yX5_walk.desc).map (fun d => d.parameters.length) = some 1 := by decide +kernel
theorem pdVX6_isPack : yX6_isPack.cls = RX6 ∧ yX6_isPack.cls ≠ "java/lang/invoke/MethodHandle" ∧ yX6_isPack.cls ≠ "java/lang/invoke/VarHandle" ∧ (parseMethodDescriptor yX6_isPack.desc).map (fun d => d.parameters.length) = some 2 := by decide +kernel
theorem pdX6_isPlace : yX6_isPlace.cls ≠ "java/lang/invoke/MethodHandle" ∧ yX6_isPlace.cls ≠ "java/lang/invoke/VarHandle" ∧ (parseMethodDescriptor yX6_isPlace.desc).map (fun d => d.parameters.length) = some 1 := by decide +kernel
theorem pdX6_isShelf : yX6_isShelf.cls ≠ "java/lang/invoke/MethodHandle" ∧ yX6_isShelf.cls ≠ "java/lang/invoke/VarHandle" ∧ (parseMethodDescriptor yX6_isShelf.desc).map (fun d => d.parameters.length) = some 1 := by decide +kernel
theorem pdVX6_isWaggon : yX6_isWaggon.cls = RX6 ∧ yX6_isWaggon.cls ≠ "java/lang/invoke/MethodHandle" ∧ yX6_isWaggon.cls ≠ "java/lang/invoke/VarHandle" ∧ (parseMethodDescriptor yX6_isWaggon.desc).map (fun d => d.parameters.length) = some 1 := by decide +kernel
theorem pdVX6_refuse : yX6_refuse.cls = RX6 ∧ yX6_refuse.cls ≠ "java/lang/invoke/MethodHandle" ∧ yX6_refuse.cls ≠ "java/lang/invoke/VarHandle" ∧ (parseMethodDescriptor yX6_refuse.desc).map (fun d => d.parameters.length) = some 1 := by decide +kernel
theorem pdVX6_whyNoRow : yX6_whyNoRow.cls = RX6 ∧ yX6_whyNoRow.cls ≠ "java/lang/invoke/MethodHandle" ∧ yX6_whyNoRow.cls ≠ "java/lang/invoke/VarHandle" ∧ (parseMethodDescriptor yX6_whyNoRow.desc).map (fun d => d.parameters.length) = some 1 := by decide +kernel
theorem dX6_findBest_106 : decode cX6_findBest 106 = .ok (.iinc 4 1, 3) := by decide +kernel
theorem dX6_findBest_112 : decode cX6_findBest 112 = .ok (.iinc 3 1, 3) := by decide +kernel
theorem dX6_firstWrong_40 : decode cX6_firstWrong 40 = .ok (.iinc 4 1, 3) := by decide +kernel
theorem dX6_spoken_1 : decode cX6_spoken 1 = .ok (.tableswitch 75 0 4 #[35, 45, 45, 54, 64], 35) := by decide +kernel
set_option maxHeartbeats 4000000 in
set_option maxRecDepth 100000 in
theorem c_X3_copyElements (l : Launch) (D : va_G) (E : Nat → ClassId) (G : Nat → Nat) (sz : Nat) (a : Nat → Nat) (C : Nat → va_E) (hT : TyX a E C) (x1 : Int32) (x2 : Int32) (x3 : Int32) (x4 : Int32) (x5 : Int32) (hx1 : rg x1 0 7) (hx2 : rg x2 0 7) (hx3 : rg x3 0 40) (hx4 : rg x4 0 40) (hx5 : rg x5 0 40) (hx3p : x3.toInt + x5.toInt ≤ 40) (hx4p : x4.toInt + x5.toInt ≤ 40) : Met l yX3_copyElements (oh_w yX3_copyElements cX3_copyElements 6 none) ({ frames := 1, cells := 0, slots := 0, locals := 18 }) (oh_Pm D E G [.ref (a 4), .int x1, .int x2, .int x3, .int x4, .int x5] (oh_W 35 a C) sz) (va_Qv (fun (u : Nat → va_E) => TyX a E u ∧ fr [(31, 32)] [] C u ∧ True) (oh_B D (va_A (oh_W 35 a C) sz) (fun u => oh_W 35 a u)) (va_A (oh_W 35 a C) sz)) 0 0 (va_A (oh_W 35 a C) sz) := by
  refine Met.ofW (cc := cX3_copyElements) (maxL := 6) (ret := none) (by decide) rfl ?_
  intro p e s m args below meth c s₁ B hml hv
  obtain ⟨rfl, hsz, hP, hK, hD0, hG⟩ := hv
  have hx := B.exec
  have hb := B.bytes
  have hr := B.returns
  have hts := atoms_spec (ws := (oh_w yX3_copyElements cX3_copyElements 6 none)) B.pre
  have htg : ∀ w ∈ oh_t, w.before _ s = true := fun w h => hts w (List.mem_cons_of_mem _ h)
  have hown : s.vm.findClass RX3 = some m.cls := findClass_of_methodNamed B.named
  have hlocks := B.notSynchronized
  have hT0 := hT
  subst hsz
  have hD := hD0.self (sz := s.heap.size)
  generalize hAe : va_A (oh_W 35 a C) s.heap.size = A at hD hG ⊢
  have hA : ∀ q : Nat, s.heap.size ≤ q → A q := fun q h => by rw [← hAe]; exact Or.inr h
  have hS : va_S A s.heap s.heap [] := va_S.rf
  have hF : fr [(31, 32)] [] C C := fr_rf
  have hl := lv_entry ([.ref (a 4), .int x1, .int x2, .int x3, .int x4, .int x5]) (n := 6) (Nat.le_of_ble_eq_true rfl)
  rw [lg_entry_eq]
  generalize (lg_sl ([.ref (a 4), .int x1, .int x2, .int x3, .int x4, .int x5]) ++ List.replicate (6 - (lg_sl ([.ref (a 4), .int x1, .int x2, .int x3, .int x4, .int x5])).length) Slot.unset).toArray = ls at hl ⊢
  have hl : lv_has ls 6 [(0, .ref (a 4)), (1, .int x1), (2, .int x2), (3, .int x3), (4, .int x4), (5, .int x5)] := hl
  refine oh_genQ (fun Q hQ => ?_)
  refine lv_aload_n hx hb dX3_copyElements_0 rfl (lv_at hl 0 rfl) ?_
  refine va_get (D := D) (ci := 3) (v := .ref (a 31)) (C := RX3) (T := TX3) (N := 3) hx hb htg ig_3 hown hK hP 4 (oh_wg (by decide) (sX_4 hT)) rfl 2 (by decide) (htg _ q_202) (fun _ h9 => h9) rfl dX3_copyElements_1 ?_
  refine lv_iload_n hx hb dX3_copyElements_4 rfl (lv_at hl 1 rfl) ?_
  refine lv_bipush (v := 40) hx hb dX3_copyElements_5 (by decide) ?_
  refine lv_imul hx hb dX3_copyElements_7 ?_
  refine lv_iload_n hx hb dX3_copyElements_8 rfl (lv_at hl 3 rfl) ?_
  refine lv_iadd hx hb dX3_copyElements_9 ?_
  refine lv_aload_n hx hb dX3_copyElements_10 rfl (lv_at hl 0 rfl) ?_
  refine va_get (D := D) (ci := 3) (v := .ref (a 31)) (C := RX3) (T := TX3) (N := 3) hx hb htg ig_3 hown hK hP 4 (oh_wg (by decide) (sX_4 hT)) rfl 2 (by decide) (htg _ q_202) (fun _ h9 => h9) rfl dX3_copyElements_11 ?_
  refine lv_iload_n hx hb dX3_copyElements_14 rfl (lv_at hl 2 rfl) ?_
  refine lv_bipush (v := 40) hx hb dX3_copyElements_15 (by decide) ?_
  refine lv_imul hx hb dX3_copyElements_17 ?_
  refine lv_iload hx hb dX3_copyElements_18 (lv_at hl 4 rfl) ?_
  refine lv_iadd hx hb dX3_copyElements_20 ?_
  refine lv_iload hx hb dX3_copyElements_21 (lv_at hl 5 rfl) ?_
  refine th_copyl (T := TyX a E) (Rl := fr [(31, 32)] [] C) hx hb (by rw [hml]; exact hl.1.symm) hown (htg _ q_345) (htg _ q_347) (htg _ q_346) (htg _ q_74) hK hP hD hS 31 31 (by decide) (by decide) (sX_31 hT) (sX_31 hT) (oh_nn (rg_add (lo := 0) (hi := 320) (rg_mul (lo := 0) (hi := 280) hx1 (rg_c (v := 40) (lo := 40) (hi := 40) (by decide)) (by decide)) hx3 (by decide)) (by decide)) (oh_nn (rg_add (lo := 0) (hi := 320) (rg_mul (lo := 0) (hi := 280) hx2 (rg_c (v := 40) (lo := 40) (hi := 40) (by decide)) (by decide)) hx4 (by decide)) (by decide)) (oh_nn hx5 (by decide)) (oh_cp hx1 hx5 hx3p hx3.1) (oh_cp hx2 hx5 hx4p hx4.1) (hT.up 31 rfl) (fr_st hF (by decide) (by decide)) (Nat.le_of_ble_eq_true rfl) (Nat.le_of_ble_eq_true rfl) dX3_copyElements_23 (fun C_1 H locs e_2 hT hF hP hD hS => ?_)
  have t_3 := hT
  rw [hQ]
  exact W.vret hx hb hr (fun t ht hW => ⟨⟨C_1, rfl, ⟨hT, hF, trivial⟩, ⟨by rw [ht]; exact hP, hD⟩⟩, hS.F ht⟩) hS.2.2 dX3_copyElements_26

set_option maxHeartbeats 4000000 in
set_option maxRecDepth 100000 in
theorem c_X6_refuse (l : Launch) (D : va_G) (E : Nat → ClassId) (G : Nat → Nat) (sz : Nat) (a : Nat → Nat) (C : Nat → va_E) (hT : TyX a E C) (x1 : Int32) : Met l yX6_refuse (oh_w yX6_refuse cX6_refuse 3 (some .int)) ({ frames := 1, cells := 0, slots := 0, locals := 22 }) (oh_Pm D E G [.ref (a 0), .int x1] (oh_W 35 a C) sz) (va_Qi (fun r (u : Nat → va_E) => TyX a E u ∧ fr [(7, 8)] [] C u ∧ r = x1) (oh_B D (va_A (oh_W 35 a C) sz) (fun u => oh_W 35 a u)) (va_A (oh_W 35 a C) sz)) 0 0 (va_A (oh_W 35 a C) sz) := by
  refine Met.ofW (cc := cX6_refuse) (maxL := 3) (ret := (some .int)) (by decide) rfl ?_
  intro p e s m args below meth c s₁ B hml hv
  obtain ⟨rfl, hsz, hP, hK, hD0, hG⟩ := hv
  have hx := B.exec
  have hb := B.bytes
  have hr := B.returns
  have hts := atoms_spec (ws := (oh_w yX6_refuse cX6_refuse 3 (some .int))) B.pre
  have htg : ∀ w ∈ oh_t, w.before _ s = true := fun w h => hts w (List.mem_cons_of_mem _ h)
  have hown : s.vm.findClass RX6 = some m.cls := findClass_of_methodNamed B.named
  have hlocks := B.notSynchronized
  have hT0 := hT
  subst hsz
  have hD := hD0.self (sz := s.heap.size)
  generalize hAe : va_A (oh_W 35 a C) s.heap.size = A at hD hG ⊢
  have hA : ∀ q : Nat, s.heap.size ≤ q → A q := fun q h => by rw [← hAe]; exact Or.inr h
  have hS : va_S A s.heap s.heap [] := va_S.rf
  have hF : fr [(7, 8)] [] C C := fr_rf
  have hl := lv_entry ([.ref (a 0), .int x1]) (n := 3) (Nat.le_of_ble_eq_true rfl)
  rw [lg_entry_eq]
  generalize (lg_sl ([.ref (a 0), .int x1]) ++ List.replicate (3 - (lg_sl ([.ref (a 0), .int x1])).length) Slot.unset).toArray = ls at hl ⊢
  have hl : lv_has ls 3 [(0, .ref (a 0)), (1, .int x1)] := hl
  refine oh_genQ (fun Q hQ => ?_)
  refine lv_bipush (v := (-2)) hx hb dX6_refuse_0 (by decide) ?_
  refine lv_iload_n hx hb dX6_refuse_2 rfl (lv_at hl 1 rfl) ?_
  refine lv_isub hx hb dX6_refuse_3 ?_
  refine lv_istore_n (lv' := [(2, .int ((-2) - x1)), (0, .ref (a 0)), (1, .int x1)]) hx hb dX6_refuse_4 rfl hl (by decide) rfl (fun ls hl => ?_)
  refine lv_iload_n hx hb dX6_refuse_5 rfl (lv_at hl 0 rfl) ?_
  refine lv_iconst (v := 0) hx hb dX6_refuse_6 (by decide) ?_
  refine lv_iconst (v := 4) hx hb dX6_refuse_7 (by decide) ?_
  refine tq_S (As := [.int ((-2) - x1), .int 0, .int 4]) (rest := []) (ws := []) ⟨hx, hb, hml, hown, htg⟩ (c_X6_within l D E G ((-2) - x1) (0 : Int32) (4 : Int32)) (va_cwS 3 htg (oh_gS q_293 q_294 q_66 q_295) rfl rfl rfl pdX6_within ⟨Nat.le_of_ble_eq_true rfl, Nat.le_of_ble_eq_true rfl⟩) hK va_nil hG hS rfl hl.1 rfl (Nat.le_of_ble_eq_true rfl) dX6_refuse_8 ⟨Nat.le_of_ble_eq_true rfl, Nat.le_of_ble_eq_true rfl⟩ (fun r_1 hq_2 => ?_)
  refine lv_if_eq (tgt := 24) hx hb dX6_refuse_11 (by decide) (fun (c_3 : r_1 = 0) => ?_) (fun (c_3 : ¬ (r_1 = 0)) => ?_)
  · have u_4 := hq_2.2.2 c_3
    refine lv_iload_n hx hb dX6_refuse_24 rfl (lv_at hl 2 rfl) ?_
    rw [hQ]
    exact W.iret (v := x1) hx hb hr (fun t ht hW => ⟨⟨x1, C, rfl, ⟨hT, hF, rfl⟩, ⟨by rw [ht]; exact hP, hD⟩⟩, hS.F ht⟩) hS.2.2 dX6_refuse_25
  · have u_5 := hq_2.2.1 c_3
    refine lv_aload_n hx hb dX6_refuse_14 rfl (lv_at hl 1 rfl) ?_
    refine va_get (D := D) (ci := 6) (v := .ref (a 7)) (C := RX6) (T := TX6) (N := 9) hx hb htg ig_6 hown hK hP 0 (oh_wg (by decide) (sX_0 hT)) rfl 7 (by decide) (htg _ q_265) (fun _ h9 => h9) rfl dX6_refuse_15 ?_
    refine lv_iload_n hx hb dX6_refuse_18 rfl (lv_at hl 0 rfl) ?_
    refine lv_dup2_11 hx hb dX6_refuse_19 rfl rfl ?_
    have n_6 : vp_in ((-2) - x1) 5 := (rg_in (rn_leu u_5.2 (rn_lel u_5.1 (rg_c (v := 0) (lo := 0) (hi := 0) (by decide)) (rg_any _)) (rg_c (v := 4) (lo := 4) (hi := 4) (by decide))) (by decide))
    refine th_iald hx hb hK hP 7 (by decide) (sX_7 hT) n_6 dX6_refuse_20 ?_
    refine lv_iconst (v := 1) hx hb dX6_refuse_21 (by decide) ?_
    refine lv_iadd hx hb dX6_refuse_22 ?_
    have n_7 : vp_in ((-2) - x1) 5 := (rg_in (rn_leu u_5.2 (rn_lel u_5.1 (rg_c (v := 0) (lo := 0) (hi := 0) (by decide)) (rg_any _)) (rg_c (v := 4) (lo := 4) (hi := 4) (by decide))) (by decide))
    refine th_iast (T := TyX a E) (Rl := fr [(7, 8)] [] C) hx hb hK hP hD hS 7 (by decide) (sX_7 hT) n_7 (hT.up 7 (tA_upd (tX_7 hT) tA_any)) (fr_st hF (by decide) (by decide)) dX6_refuse_23 (fun C_8 H locs e_9 hT hF hP hD hS => ?_)
    have t_10 := hT
    refine lv_iload_n hx hb dX6_refuse_24 rfl (lv_at hl 2 rfl) ?_
    rw [hQ]
    exact W.iret (v := x1) hx hb hr (fun t ht hW => ⟨⟨x1, C_8, rfl, ⟨hT, hF, rfl⟩, ⟨by rw [ht]; exact hP, hD⟩⟩, hS.F ht⟩) hS.2.2 dX6_refuse_25

set_option maxHeartbeats 4000000 in
set_option maxRecDepth 100000 in
theorem c_X6_orStuck (l : Launch) (D : va_G) (E : Nat → ClassId) (G : Nat → Nat) (sz : Nat) (a : Nat → Nat) (C : Nat → va_E) (hT : TyX a E C) (x1 : Int32) : Met l yX6_orStuck (oh_w yX6_orStuck cX6_orStuck 2 (some .int)) ({ frames := 2, cells := 0, slots := 0, locals := 44 }) (oh_Pm D E G [.ref (a 0), .int x1] (oh_W 35 a C) sz) (va_Qi (fun r (u : Nat → va_E) => TyX a E u ∧ fr [(7, 8)] [] C u ∧ True) (oh_B D (va_A (oh_W 35 a C) sz) (fun u => oh_W 35 a u)) (va_A (oh_W 35 a C) sz)) 0 0 (va_A (oh_W 35 a C) sz) := by
  refine Met.ofW (cc := cX6_orStuck) (maxL := 2) (ret := (some .int)) (by decide) rfl ?_
  intro p e s m args below meth c s₁ B hml hv
  obtain ⟨rfl, hsz, hP, hK, hD0, hG⟩ := hv
  have hx := B.exec
  have hb := B.bytes
  have hr := B.returns
  have hts := atoms_spec (ws := (oh_w yX6_orStuck cX6_orStuck 2 (some .int))) B.pre
  have htg : ∀ w ∈ oh_t, w.before _ s = true := fun w h => hts w (List.mem_cons_of_mem _ h)
  have hown : s.vm.findClass RX6 = some m.cls := findClass_of_methodNamed B.named
  have hlocks := B.notSynchronized
  have hT0 := hT
  subst hsz
  have hD := hD0.self (sz := s.heap.size)
  generalize hAe : va_A (oh_W 35 a C) s.heap.size = A at hD hG ⊢
  have hA : ∀ q : Nat, s.heap.size ≤ q → A q := fun q h => by rw [← hAe]; exact Or.inr h
  have hS : va_S A s.heap s.heap [] := va_S.rf
  have hF : fr [(7, 8)] [] C C := fr_rf
  have hl := lv_entry ([.ref (a 0), .int x1]) (n := 2) (Nat.le_of_ble_eq_true rfl)
  rw [lg_entry_eq]
  generalize (lg_sl ([.ref (a 0), .int x1]) ++ List.replicate (2 - (lg_sl ([.ref (a 0), .int x1])).length) Slot.unset).toArray = ls at hl ⊢
  have hl : lv_has ls 2 [(0, .ref (a 0)), (1, .int x1)] := hl
  refine oh_genQ (fun Q hQ => ?_)
  refine lv_iload_n hx hb dX6_orStuck_0 rfl (lv_at hl 1 rfl) ?_
  refine lv_ldc (v := 1000000000) hx hb hown (htg _ q_803) dX6_orStuck_1 ?_
  refine lv_icmp_ne (tgt := 15) hx hb dX6_orStuck_3 (by decide) (fun (c_1 : ¬ (x1 = 1000000000)) => ?_) (fun (c_1 : x1 = 1000000000) => ?_)
  · refine lv_iload_n hx hb dX6_orStuck_15 rfl (lv_at hl 1 rfl) ?_
    rw [hQ]
    exact W.iret (v := x1) hx hb hr (fun t ht hW => ⟨⟨x1, C, rfl, ⟨hT, hF, trivial⟩, ⟨by rw [ht]; exact hP, hD⟩⟩, hS.F ht⟩) hS.2.2 dX6_orStuck_16
  · refine lv_aload_n hx hb dX6_orStuck_6 rfl (lv_at hl 0 rfl) ?_
    refine lv_bipush (v := (-5)) hx hb dX6_orStuck_7 (by decide) ?_
    refine tm_V (As := [.int (-5)]) (rest := []) ⟨hx, hb, hml, hown, htg⟩ (c_X6_refuse l D E G _ a C hT ((-5) : Int32)) (cwV 1 htg (oh_gV q_296 q_298 q_0 q_66 q_299) rfl rfl rfl pdVX6_refuse ⟨Nat.le_of_ble_eq_true rfl, Nat.le_of_ble_eq_true rfl⟩) hK hP hD hG hS hA (va_recv hK hP (ci := 6) (q0 := 0) rfl (oh_wg (by decide) (sX_0 hT))) rfl hl.1 rfl (Nat.le_of_ble_eq_true rfl) dX6_orStuck_9 ⟨Nat.le_of_ble_eq_true rfl, Nat.le_of_ble_eq_true rfl⟩ (fun r_2 C_3 H locs hq_4 hP hD hS => ?_)
    obtain ⟨hT, f_5, hq_4⟩ := hq_4
    have hF := fr_tr hF f_5 (by decide) (by decide)
    refine W.widen (k := 0) (n := 0) (Nat.le_refl _) (Nat.le_refl _) ?_
    have t_6 := hT
    refine lv_goto (tgt := 16) hx hb dX6_orStuck_12 (by decide) ?_
    rw [hQ]
    exact W.iret (v := r_2) hx hb hr (fun t ht hW => ⟨⟨r_2, C_3, rfl, ⟨hT, hF, trivial⟩, ⟨by rw [ht]; exact hP, hD⟩⟩, hS.F ht⟩) hS.2.2 dX6_orStuck_16

set_option maxHeartbeats 4000000 in
set_option maxRecDepth 100000 in
theorem c_X6_isRoad (l : Launch) (D : va_G) (E : Nat → ClassId) (G : Nat → Nat) (a : Nat → Nat) (C : Nat → va_E) (hT : TyX a E C) (x1 : Int32) : Met l yX6_isRoad (oh_w yX6_isRoad cX6_isRoad 2 (some .boolean)) ({ frames := 1, cells := 0, slots := 0, locals := 22 }) (oh_Pp D E G [.ref (a 0), .int x1] (oh_W 35 a C)) (vp_Si (fun r => (r = 0 ∨ r = 1) ∧ (r ≠ 0 → rg x1 0 23))) 0 0 (fun _ => False) := by
  refine Met.ofW (cc := cX6_isRoad) (maxL := 2) (ret := (some .boolean)) (by decide) rfl ?_
  intro p e s m args below meth c s₁ B hml hv
  obtain ⟨rfl, hP, hK, hG⟩ := hv
  have hx := B.exec
  have hb := B.bytes
  have hr := B.returns
  have hts := atoms_spec (ws := (oh_w yX6_isRoad cX6_isRoad 2 (some .boolean))) B.pre
  have htg : ∀ w ∈ oh_t, w.before _ s = true := fun w h => hts w (List.mem_cons_of_mem _ h)
  have hown : s.vm.findClass RX6 = some m.cls := findClass_of_methodNamed B.named
  have hlocks := B.notSynchronized
  have hT0 := hT
  have hS : va_S (fun _ => False) s.heap s.heap [] := va_S.rf
  have hl := lv_entry ([.ref (a 0), .int x1]) (n := 2) (Nat.le_of_ble_eq_true rfl)
  rw [lg_entry_eq]
  generalize (lg_sl ([.ref (a 0), .int x1]) ++ List.replicate (2 - (lg_sl ([.ref (a 0), .int x1])).length) Slot.unset).toArray = ls at hl ⊢
  have hl : lv_has ls 2 [(0, .ref (a 0)), (1, .int x1)] := hl
  refine oh_genQ (fun Q hQ => ?_)
  refine lv_iload_n hx hb dX6_isRoad_0 rfl (lv_at hl 1 rfl) ?_
  refine lv_iconst (v := 0) hx hb dX6_isRoad_1 (by decide) ?_
  refine lv_aload_n hx hb dX6_isRoad_2 rfl (lv_at hl 0 rfl) ?_
  refine va_get (D := D) (ci := 6) (v := .ref (a 1)) (C := RX6) (T := TX6) (N := 9) hx hb htg ig_6 hown hK hP 0 (oh_wg (by decide) (sX_0 hT)) rfl 0 (by decide) (htg _ q_258) (fun _ h9 => h9) rfl dX6_isRoad_3 ?_
  refine va_get (D := D) (ci := 0) (v := .ref (a 10)) (C := RX0) (T := TX0) (N := 8) hx hb htg ig_0 hown hK hP 1 (oh_wg (by decide) (sX_1 hT)) rfl 0 (by decide) (htg _ q_100) (fun _ h9 => h9) rfl dX6_isRoad_6 ?_
  refine lv_iconst (v := 0) hx hb dX6_isRoad_9 (by decide) ?_
  refine th_iald hx hb hK hP 10 (by decide) (sX_10 hT) (rg_in (rg_c (v := 0) (lo := 0) (hi := 0) (by decide)) (by decide)) dX6_isRoad_10 ?_
  refine lv_iconst (v := 1) hx hb dX6_isRoad_11 (by decide) ?_
  refine lv_isub hx hb dX6_isRoad_12 ?_
  refine tq_S (As := [.int x1, .int 0, .int ((ga (C 10) ((0 : Int32)).toNatClampNeg) - 1)]) (rest := []) (ws := []) ⟨hx, hb, hml, hown, htg⟩ (c_X6_within l D E G x1 (0 : Int32) ((ga (C 10) ((0 : Int32)).toNatClampNeg) - 1)) (va_cwS 3 htg (oh_gS q_293 q_294 q_66 q_295) rfl rfl rfl pdX6_within ⟨Nat.le_of_ble_eq_true rfl, Nat.le_of_ble_eq_true rfl⟩) hK va_nil hG hS rfl hl.1 rfl (Nat.le_of_ble_eq_true rfl) dX6_isRoad_13 ⟨Nat.le_of_ble_eq_true rfl, Nat.le_of_ble_eq_true rfl⟩ (fun r_1 hq_2 => ?_)
  rw [hQ]
  exact W.zret (v := r_1) (ty := .boolean) hx hb hr (oh_nb hq_2.1) (fun t ht hW => ⟨r_1, rfl, ⟨hq_2.1, (fun h9 => (rg_w (rn_leu (hq_2.2.1 h9).2 (rn_lel (hq_2.2.1 h9).1 (rg_c (v := 0) (lo := 0) (hi := 0) (by decide)) (rg_any _)) (rg_sub (lo := (-1)) (hi := 23) (tA_rdc (lo := 0) (hi := 24) (tX_10 hT0) (rg_in (rg_c (v := 0) (lo := 0) (hi := 0) (by decide)) (by decide)) (show _ = 0 by decide) (by decide)) (rg_c (v := 1) (lo := 1) (hi := 1) (by decide)) (by decide))) (by decide)))⟩, ht⟩) (fun q h => by cases h) dX6_isRoad_16

set_option maxHeartbeats 4000000 in
set_option maxRecDepth 100000 in
theorem c_X6_isBridge (l : Launch) (D : va_G) (E : Nat → ClassId) (G : Nat → Nat) (a : Nat → Nat) (C : Nat → va_E) (hT : TyX a E C) (x1 : Int32) : Met l yX6_isBridge (oh_w yX6_isBridge cX6_isBridge 2 (some .boolean)) ({ frames := 1, cells := 0, slots := 0, locals := 22 }) (oh_Pp D E G [.ref (a 0), .int x1] (oh_W 35 a C)) (vp_Si (fun r => (r = 0 ∨ r = 1) ∧ (r ≠ 0 → rg x1 0 15))) 0 0 (fun _ => False) := by
  refine Met.ofW (cc := cX6_isBridge) (maxL := 2) (ret := (some .boolean)) (by decide) rfl ?_
  intro p e s m args below meth c s₁ B hml hv
  obtain ⟨rfl, hP, hK, hG⟩ := hv
  have hx := B.exec
  have hb := B.bytes
  have hr := B.returns
  have hts := atoms_spec (ws := (oh_w yX6_isBridge cX6_isBridge 2 (some .boolean))) B.pre
  have htg : ∀ w ∈ oh_t, w.before _ s = true := fun w h => hts w (List.mem_cons_of_mem _ h)
  have hown : s.vm.findClass RX6 = some m.cls := findClass_of_methodNamed B.named
  have hlocks := B.notSynchronized
  have hT0 := hT
  have hS : va_S (fun _ => False) s.heap s.heap [] := va_S.rf
  have hl := lv_entry ([.ref (a 0), .int x1]) (n := 2) (Nat.le_of_ble_eq_true rfl)
  rw [lg_entry_eq]
  generalize (lg_sl ([.ref (a 0), .int x1]) ++ List.replicate (2 - (lg_sl ([.ref (a 0), .int x1])).length) Slot.unset).toArray = ls at hl ⊢
  have hl : lv_has ls 2 [(0, .ref (a 0)), (1, .int x1)] := hl
  refine oh_genQ (fun Q hQ => ?_)
  refine lv_iload_n hx hb dX6_isBridge_0 rfl (lv_at hl 1 rfl) ?_
  refine lv_iconst (v := 0) hx hb dX6_isBridge_1 (by decide) ?_
  refine lv_aload_n hx hb dX6_isBridge_2 rfl (lv_at hl 0 rfl) ?_
  refine va_get (D := D) (ci := 6) (v := .ref (a 1)) (C := RX6) (T := TX6) (N := 9) hx hb htg ig_6 hown hK hP 0 (oh_wg (by decide) (sX_0 hT)) rfl 0 (by decide) (htg _ q_258) (fun _ h9 => h9) rfl dX6_isBridge_3 ?_
  refine va_get (D := D) (ci := 0) (v := .ref (a 10)) (C := RX0) (T := TX0) (N := 8) hx hb htg ig_0 hown hK hP 1 (oh_wg (by decide) (sX_1 hT)) rfl 0 (by decide) (htg _ q_100) (fun _ h9 => h9) rfl dX6_isBridge_6 ?_
  refine lv_iconst (v := 1) hx hb dX6_isBridge_9 (by decide) ?_
  refine th_iald hx hb hK hP 10 (by decide) (sX_10 hT) (rg_in (rg_c (v := 1) (lo := 1) (hi := 1) (by decide)) (by decide)) dX6_isBridge_10 ?_
  refine lv_iconst (v := 1) hx hb dX6_isBridge_11 (by decide) ?_
  refine lv_isub hx hb dX6_isBridge_12 ?_
  refine tq_S (As := [.int x1, .int 0, .int ((ga (C 10) ((1 : Int32)).toNatClampNeg) - 1)]) (rest := []) (ws := []) ⟨hx, hb, hml, hown, htg⟩ (c_X6_within l D E G x1 (0 : Int32) ((ga (C 10) ((1 : Int32)).toNatClampNeg) - 1)) (va_cwS 3 htg (oh_gS q_293 q_294 q_66 q_295) rfl rfl rfl pdX6_within ⟨Nat.le_of_ble_eq_true rfl, Nat.le_of_ble_eq_true rfl⟩) hK va_nil hG hS rfl hl.1 rfl (Nat.le_of_ble_eq_true rfl) dX6_isBridge_13 ⟨Nat.le_of_ble_eq_true rfl, Nat.le_of_ble_eq_true rfl⟩ (fun r_1 hq_2 => ?_)
  rw [hQ]
  exact W.zret (v := r_1) (ty := .boolean) hx hb hr (oh_nb hq_2.1) (fun t ht hW => ⟨r_1, rfl, ⟨hq_2.1, (fun h9 => (rg_w (rn_leu (hq_2.2.1 h9).2 (rn_lel (hq_2.2.1 h9).1 (rg_c (v := 0) (lo := 0) (hi := 0) (by decide)) (rg_any _)) (rg_sub (lo := (-1)) (hi := 15) (tA_rdc (lo := 0) (hi := 16) (tX_10 hT0) (rg_in (rg_c (v := 1) (lo := 1) (hi := 1) (by decide)) (by decide)) (show _ = 1 by decide) (by decide)) (rg_c (v := 1) (lo := 1) (hi := 1) (by decide)) (by decide))) (by decide)))⟩, ht⟩) (fun q h => by cases h) dX6_isBridge_16

set_option maxHeartbeats 4000000 in
set_option maxRecDepth 100000 in
theorem c_X6_isWaggon (l : Launch) (D : va_G) (E : Nat → ClassId) (G : Nat → Nat) (a : Nat → Nat) (C : Nat → va_E) (hT : TyX a E C) (x1 : Int32) : Met l yX6_isWaggon (oh_w yX6_isWaggon cX6_isWaggon 2 (some .boolean)) ({ frames := 1, cells := 0, slots := 0, locals := 22 }) (oh_Pp D E G [.ref (a 0), .int x1] (oh_W 35 a C)) (vp_Si (fun r => (r = 0 ∨ r = 1) ∧ (r ≠ 0 → rg x1 0 4))) 0 0 (fun _ => False) := by
  refine Met.ofW (cc := cX6_isWaggon) (maxL := 2) (ret := (some .boolean)) (by decide) rfl ?_
  intro p e s m args below meth c s₁ B hml hv
  obtain ⟨rfl, hP, hK, hG⟩ := hv
  have hx := B.exec
  have hb := B.bytes
  have hr := B.returns
  have hts := atoms_spec (ws := (oh_w yX6_isWaggon cX6_isWaggon 2 (some .boolean))) B.pre
  have htg : ∀ w ∈ oh_t, w.before _ s = true := fun w h => hts w (List.mem_cons_of_mem _ h)
  have hown : s.vm.findClass RX6 = some m.cls := findClass_of_methodNamed B.named
  have hlocks := B.notSynchronized
  have hT0 := hT
  have hS : va_S (fun _ => False) s.heap s.heap [] := va_S.rf
  have hl := lv_entry ([.ref (a 0), .int x1]) (n := 2) (Nat.le_of_ble_eq_true rfl)
  rw [lg_entry_eq]
  generalize (lg_sl ([.ref (a 0), .int x1]) ++ List.replicate (2 - (lg_sl ([.ref (a 0), .int x1])).length) Slot.unset).toArray = ls at hl ⊢
  have hl : lv_has ls 2 [(0, .ref (a 0)), (1, .int x1)] := hl
  refine oh_genQ (fun Q hQ => ?_)
  refine lv_iload_n hx hb dX6_isWaggon_0 rfl (lv_at hl 1 rfl) ?_
  refine lv_iconst (v := 0) hx hb dX6_isWaggon_1 (by decide) ?_
  refine lv_aload_n hx hb dX6_isWaggon_2 rfl (lv_at hl 0 rfl) ?_
  refine va_get (D := D) (ci := 6) (v := .ref (a 1)) (C := RX6) (T := TX6) (N := 9) hx hb htg ig_6 hown hK hP 0 (oh_wg (by decide) (sX_0 hT)) rfl 0 (by decide) (htg _ q_258) (fun _ h9 => h9) rfl dX6_isWaggon_3 ?_
  refine va_get (D := D) (ci := 0) (v := .ref (a 10)) (C := RX0) (T := TX0) (N := 8) hx hb htg ig_0 hown hK hP 1 (oh_wg (by decide) (sX_1 hT)) rfl 0 (by decide) (htg _ q_100) (fun _ h9 => h9) rfl dX6_isWaggon_6 ?_
  refine lv_iconst (v := 2) hx hb dX6_isWaggon_9 (by decide) ?_
  refine th_iald hx hb hK hP 10 (by decide) (sX_10 hT) (rg_in (rg_c (v := 2) (lo := 2) (hi := 2) (by decide)) (by decide)) dX6_isWaggon_10 ?_
  refine lv_iconst (v := 1) hx hb dX6_isWaggon_11 (by decide) ?_
  refine lv_isub hx hb dX6_isWaggon_12 ?_
  refine tq_S (As := [.int x1, .int 0, .int ((ga (C 10) ((2 : Int32)).toNatClampNeg) - 1)]) (rest := []) (ws := []) ⟨hx, hb, hml, hown, htg⟩ (c_X6_within l D E G x1 (0 : Int32) ((ga (C 10) ((2 : Int32)).toNatClampNeg) - 1)) (va_cwS 3 htg (oh_gS q_293 q_294 q_66 q_295) rfl rfl rfl pdX6_within ⟨Nat.le_of_ble_eq_true rfl, Nat.le_of_ble_eq_true rfl⟩) hK va_nil hG hS rfl hl.1 rfl (Nat.le_of_ble_eq_true rfl) dX6_isWaggon_13 ⟨Nat.le_of_ble_eq_true rfl, Nat.le_of_ble_eq_true rfl⟩ (fun r_1 hq_2 => ?_)
  rw [hQ]
  exact W.zret (v := r_1) (ty := .boolean) hx hb hr (oh_nb hq_2.1) (fun t ht hW => ⟨r_1, rfl, ⟨hq_2.1, (fun h9 => (rg_w (rn_leu (hq_2.2.1 h9).2 (rn_lel (hq_2.2.1 h9).1 (rg_c (v := 0) (lo := 0) (hi := 0) (by decide)) (rg_any _)) (rg_sub (lo := (-1)) (hi := 4) (tA_rdc (lo := 0) (hi := 5) (tX_10 hT0) (rg_in (rg_c (v := 2) (lo := 2) (hi := 2) (by decide)) (by decide)) (show _ = 2 by decide) (by decide)) (rg_c (v := 1) (lo := 1) (hi := 1) (by decide)) (by decide))) (by decide)))⟩, ht⟩) (fun q h => by cases h) dX6_isWaggon_16

set_option maxHeartbeats 4000000 in
set_option maxRecDepth 100000 in
theorem c_X6_isPack (l : Launch) (D : va_G) (E : Nat → ClassId) (G : Nat → Nat) (a : Nat → Nat) (C : Nat → va_E) (hT : TyX a E C) (x1 : Int32) (x2 : Int32) : Met l yX6_isPack (oh_w yX6_isPack cX6_isPack 3 (some .boolean)) ({ frames := 2, cells := 0, slots := 0, locals := 43 }) (oh_Pp D E G [.ref (a 0), .int x1, .int x2] (oh_W 35 a C)) (vp_Si (fun r => (r = 0 ∨ r = 1) ∧ (r ≠ 0 → rg x1 0 4))) 0 0 (fun _ => False) := by
  refine Met.ofW (cc := cX6_isPack) (maxL := 3) (ret := (some .boolean)) (by decide) rfl ?_
  intro p e s m args below meth c s₁ B hml hv
  obtain ⟨rfl, hP, hK, hG⟩ := hv
  have hx := B.exec
  have hb := B.bytes
  have hr := B.returns
  have hts := atoms_spec (ws := (oh_w yX6_isPack cX6_isPack 3 (some .boolean))) B.pre
  have htg : ∀ w ∈ oh_t, w.before _ s = true := fun w h => hts w (List.mem_cons_of_mem _ h)
  have hown : s.vm.findClass RX6 = some m.cls := findClass_of_methodNamed B.named
  have hlocks := B.notSynchronized
  have hT0 := hT
  have hS : va_S (fun _ => False) s.heap s.heap [] := va_S.rf
  have hl := lv_entry ([.ref (a 0), .int x1, .int x2]) (n := 3) (Nat.le_of_ble_eq_true rfl)
  rw [lg_entry_eq]
  generalize (lg_sl ([.ref (a 0), .int x1, .int x2]) ++ List.replicate (3 - (lg_sl ([.ref (a 0), .int x1, .int x2])).length) Slot.unset).toArray = ls at hl ⊢
  have hl : lv_has ls 3 [(0, .ref (a 0)), (1, .int x1), (2, .int x2)] := hl
  refine oh_genQ (fun Q hQ => ?_)
  refine lv_aload_n hx hb dX6_isPack_0 rfl (lv_at hl 0 rfl) ?_
  refine lv_iload_n hx hb dX6_isPack_1 rfl (lv_at hl 1 rfl) ?_
  refine tq_V (As := [.int x1]) (rest := []) (ws := (oh_W 35 a C)) ⟨hx, hb, hml, hown, htg⟩ (c_X6_isWaggon l D E G a C hT x1) (cwV 1 htg (oh_gV q_679 q_681 q_15 q_66 q_682) rfl rfl rfl pdVX6_isWaggon ⟨Nat.le_of_ble_eq_true rfl, Nat.le_of_ble_eq_true rfl⟩) hK hP hG hS (va_recv hK hP (ci := 6) (q0 := 0) rfl (oh_wg (by decide) (sX_0 hT))) rfl hl.1 rfl (Nat.le_of_ble_eq_true rfl) dX6_isPack_2 ⟨Nat.le_of_ble_eq_true rfl, Nat.le_of_ble_eq_true rfl⟩ (fun r_1 hq_2 => ?_)
  refine lv_if_eq (tgt := 29) hx hb dX6_isPack_5 (by decide) (fun (c_3 : r_1 = 0) => ?_) (fun (c_3 : ¬ (r_1 = 0)) => ?_)
  · refine lv_iconst (v := 0) hx hb dX6_isPack_29 (by decide) ?_
    rw [hQ]
    exact W.zret (v := 0) (ty := .boolean) hx hb hr (by decide) (fun t ht hW => ⟨0, rfl, ⟨(Or.inl rfl), (fun h9 => absurd rfl h9)⟩, ht⟩) (fun q h => by cases h) dX6_isPack_30
  · have u_4 := hq_2.2 c_3
    refine lv_iload_n hx hb dX6_isPack_8 rfl (lv_at hl 2 rfl) ?_
    refine lv_iconst (v := 0) hx hb dX6_isPack_9 (by decide) ?_
    refine lv_aload_n hx hb dX6_isPack_10 rfl (lv_at hl 0 rfl) ?_
    refine va_get (D := D) (ci := 6) (v := .ref (a 1)) (C := RX6) (T := TX6) (N := 9) hx hb htg ig_6 hown hK hP 0 (oh_wg (by decide) (sX_0 hT)) rfl 0 (by decide) (htg _ q_258) (fun _ h9 => h9) rfl dX6_isPack_11 ?_
    refine tq_V (As := []) (rest := [.int 0, .int x2]) (ws := (oh_W 35 a C)) ⟨hx, hb, hml, hown, htg⟩ (c_X0_setsOfParts l D E G a C hT) (cwV 0 htg (oh_gV q_699 q_700 q_701 q_67 q_702) rfl rfl rfl pdVX0_setsOfParts ⟨Nat.le_of_ble_eq_true rfl, Nat.le_of_ble_eq_true rfl⟩) hK hP hG hS (va_recv hK hP (ci := 0) (q0 := 1) rfl (oh_wg (by decide) (sX_1 hT))) rfl hl.1 rfl (Nat.le_of_ble_eq_true rfl) dX6_isPack_14 ⟨Nat.le_of_ble_eq_true rfl, Nat.le_of_ble_eq_true rfl⟩ (fun r_5 hq_6 => ?_)
    refine lv_iconst (v := 1) hx hb dX6_isPack_17 (by decide) ?_
    refine lv_isub hx hb dX6_isPack_18 ?_
    refine tq_S (As := [.int x2, .int 0, .int (r_5 - 1)]) (rest := []) (ws := []) ⟨hx, hb, hml, hown, htg⟩ (c_X6_within l D E G x2 (0 : Int32) (r_5 - 1)) (va_cwS 3 htg (oh_gS q_293 q_294 q_66 q_295) rfl rfl rfl pdX6_within ⟨Nat.le_of_ble_eq_true rfl, Nat.le_of_ble_eq_true rfl⟩) hK va_nil hG hS rfl hl.1 rfl (Nat.le_of_ble_eq_true rfl) dX6_isPack_19 ⟨Nat.le_of_ble_eq_true rfl, Nat.le_of_ble_eq_true rfl⟩ (fun r_7 hq_8 => ?_)
    refine lv_if_eq (tgt := 29) hx hb dX6_isPack_22 (by decide) (fun (c_9 : r_7 = 0) => ?_) (fun (c_9 : ¬ (r_7 = 0)) => ?_)
    · have u_10 := hq_8.2.2 c_9
      refine lv_iconst (v := 0) hx hb dX6_isPack_29 (by decide) ?_
      rw [hQ]
      exact W.zret (v := 0) (ty := .boolean) hx hb hr (by decide) (fun t ht hW => ⟨0, rfl, ⟨(Or.inl rfl), (fun h9 => absurd rfl h9)⟩, ht⟩) (fun q h => by cases h) dX6_isPack_30
    · have u_11 := hq_8.2.1 c_9
      refine lv_iconst (v := 1) hx hb dX6_isPack_25 (by decide) ?_
      refine lv_goto (tgt := 30) hx hb dX6_isPack_26 (by decide) ?_
      rw [hQ]
      exact W.zret (v := 1) (ty := .boolean) hx hb hr (by decide) (fun t ht hW => ⟨1, rfl, ⟨(Or.inr rfl), (fun _ => (rg_w u_4 (by decide)))⟩, ht⟩) (fun q h => by cases h) dX6_isPack_30

set_option maxHeartbeats 4000000 in
set_option maxRecDepth 100000 in
theorem c_X6_isJourney (l : Launch) (D : va_G) (E : Nat → ClassId) (G : Nat → Nat) (a : Nat → Nat) (C : Nat → va_E) (hT : TyX a E C) (x1 : Int32) (x2 : Int32) (x3 : Int32) (x4 : Int32) : Met l yX6_isJourney (oh_w yX6_isJourney cX6_isJourney 5 (some .boolean)) ({ frames := 3, cells := 0, slots := 0, locals := 65 }) (oh_Pp D E G [.ref (a 0), .int x1, .int x2, .int x3, .int x4] (oh_W 35 a C)) (vp_Si (fun r => (r = 0 ∨ r = 1) ∧ (r ≠ 0 → rg x1 0 4 ∧ rg x3 0 15 ∧ rg x4 0 15))) 0 0 (fun _ => False) := by
  refine Met.ofW (cc := cX6_isJourney) (maxL := 5) (ret := (some .boolean)) (by decide) rfl ?_
  intro p e s m args below meth c s₁ B hml hv
  obtain ⟨rfl, hP, hK, hG⟩ := hv
  have hx := B.exec
  have hb := B.bytes
  have hr := B.returns
  have hts := atoms_spec (ws := (oh_w yX6_isJourney cX6_isJourney 5 (some .boolean))) B.pre
  have htg : ∀ w ∈ oh_t, w.before _ s = true := fun w h => hts w (List.mem_cons_of_mem _ h)
  have hown : s.vm.findClass RX6 = some m.cls := findClass_of_methodNamed B.named
  have hlocks := B.notSynchronized
  have hT0 := hT
  have hS : va_S (fun _ => False) s.heap s.heap [] := va_S.rf
  have hl := lv_entry ([.ref (a 0), .int x1, .int x2, .int x3, .int x4]) (n := 5) (Nat.le_of_ble_eq_true rfl)
  rw [lg_entry_eq]
  generalize (lg_sl ([.ref (a 0), .int x1, .int x2, .int x3, .int x4]) ++ List.replicate (5 - (lg_sl ([.ref (a 0), .int x1, .int x2, .int x3, .int x4])).length) Slot.unset).toArray = ls at hl ⊢
  have hl : lv_has ls 5 [(0, .ref (a 0)), (1, .int x1), (2, .int x2), (3, .int x3), (4, .int x4)] := hl
  refine oh_genQ (fun Q hQ => ?_)
  refine lv_aload_n hx hb dX6_isJourney_0 rfl (lv_at hl 0 rfl) ?_
  refine lv_iload_n hx hb dX6_isJourney_1 rfl (lv_at hl 1 rfl) ?_
  refine lv_iload_n hx hb dX6_isJourney_2 rfl (lv_at hl 2 rfl) ?_
  refine tq_V (As := [.int x1, .int x2]) (rest := []) (ws := (oh_W 35 a C)) ⟨hx, hb, hml, hown, htg⟩ (c_X6_isPack l D E G a C hT x1 x2) (cwV 2 htg (oh_gV q_695 q_697 q_16 q_66 q_698) rfl rfl rfl pdVX6_isPack ⟨Nat.le_of_ble_eq_true rfl, Nat.le_of_ble_eq_true rfl⟩) hK hP hG hS (va_recv hK hP (ci := 6) (q0 := 0) rfl (oh_wg (by decide) (sX_0 hT))) rfl hl.1 rfl (Nat.le_of_ble_eq_true rfl) dX6_isJourney_3 ⟨Nat.le_of_ble_eq_true rfl, Nat.le_of_ble_eq_true rfl⟩ (fun r_1 hq_2 => ?_)
  refine lv_if_eq (tgt := 28) hx hb dX6_isJourney_6 (by decide) (fun (c_3 : r_1 = 0) => ?_) (fun (c_3 : ¬ (r_1 = 0)) => ?_)
  · refine lv_iconst (v := 0) hx hb dX6_isJourney_28 (by decide) ?_
    rw [hQ]
    exact W.zret (v := 0) (ty := .boolean) hx hb hr (by decide) (fun t ht hW => ⟨0, rfl, ⟨(Or.inl rfl), (fun h9 => absurd rfl h9)⟩, ht⟩) (fun q h => by cases h) dX6_isJourney_29
  · have u_4 := hq_2.2 c_3
    refine lv_iload_n hx hb dX6_isJourney_9 rfl (lv_at hl 3 rfl) ?_
    refine tq_S (As := [.int x3]) (rest := []) (ws := []) ⟨hx, hb, hml, hown, htg⟩ (c_X6_isPlace l D E G x3) (va_cwS 1 htg (oh_gS q_413 q_414 q_66 q_415) rfl rfl rfl pdX6_isPlace ⟨Nat.le_of_ble_eq_true rfl, Nat.le_of_ble_eq_true rfl⟩) hK va_nil hG hS rfl hl.1 rfl (Nat.le_of_ble_eq_true rfl) dX6_isJourney_10 ⟨Nat.le_of_ble_eq_true rfl, Nat.le_of_ble_eq_true rfl⟩ (fun r_5 hq_6 => ?_)
    refine lv_if_eq (tgt := 28) hx hb dX6_isJourney_13 (by decide) (fun (c_7 : r_5 = 0) => ?_) (fun (c_7 : ¬ (r_5 = 0)) => ?_)
    · refine lv_iconst (v := 0) hx hb dX6_isJourney_28 (by decide) ?_
      rw [hQ]
      exact W.zret (v := 0) (ty := .boolean) hx hb hr (by decide) (fun t ht hW => ⟨0, rfl, ⟨(Or.inl rfl), (fun h9 => absurd rfl h9)⟩, ht⟩) (fun q h => by cases h) dX6_isJourney_29
    · have u_8 := hq_6.2 c_7
      refine lv_iload hx hb dX6_isJourney_16 (lv_at hl 4 rfl) ?_
      refine tq_S (As := [.int x4]) (rest := []) (ws := []) ⟨hx, hb, hml, hown, htg⟩ (c_X6_isPlace l D E G x4) (va_cwS 1 htg (oh_gS q_413 q_414 q_66 q_415) rfl rfl rfl pdX6_isPlace ⟨Nat.le_of_ble_eq_true rfl, Nat.le_of_ble_eq_true rfl⟩) hK va_nil hG hS rfl hl.1 rfl (Nat.le_of_ble_eq_true rfl) dX6_isJourney_18 ⟨Nat.le_of_ble_eq_true rfl, Nat.le_of_ble_eq_true rfl⟩ (fun r_9 hq_10 => ?_)
      refine lv_if_eq (tgt := 28) hx hb dX6_isJourney_21 (by decide) (fun (c_11 : r_9 = 0) => ?_) (fun (c_11 : ¬ (r_9 = 0)) => ?_)
      · refine lv_iconst (v := 0) hx hb dX6_isJourney_28 (by decide) ?_
        rw [hQ]
        exact W.zret (v := 0) (ty := .boolean) hx hb hr (by decide) (fun t ht hW => ⟨0, rfl, ⟨(Or.inl rfl), (fun h9 => absurd rfl h9)⟩, ht⟩) (fun q h => by cases h) dX6_isJourney_29
      · have u_12 := hq_10.2 c_11
        refine lv_iconst (v := 1) hx hb dX6_isJourney_24 (by decide) ?_
        refine lv_goto (tgt := 29) hx hb dX6_isJourney_25 (by decide) ?_
        rw [hQ]
        exact W.zret (v := 1) (ty := .boolean) hx hb hr (by decide) (fun t ht hW => ⟨1, rfl, ⟨(Or.inr rfl), (fun _ => ⟨(rg_w u_4 (by decide)), (rg_w u_8 (by decide)), (rg_w u_12 (by decide))⟩)⟩, ht⟩) (fun q h => by cases h) dX6_isJourney_29

set_option maxHeartbeats 4000000 in
set_option maxRecDepth 100000 in
theorem c_X6_whyNoRow (l : Launch) (D : va_G) (E : Nat → ClassId) (G : Nat → Nat) (a : Nat → Nat) (C : Nat → va_E) (hT : TyX a E C) (x1 : Int32) : Met l yX6_whyNoRow (oh_w yX6_whyNoRow cX6_whyNoRow 2 (some .int)) ({ frames := 2, cells := 0, slots := 0, locals := 42 }) (oh_Pp D E G [.ref (a 0), .int x1] (oh_W 35 a C)) (vp_Si (fun r => (r = 0 → rg x1 0 7))) 0 0 (fun _ => False) := by
  refine Met.ofW (cc := cX6_whyNoRow) (maxL := 2) (ret := (some .int)) (by decide) rfl ?_
  intro p e s m args below meth c s₁ B hml hv
  obtain ⟨rfl, hP, hK, hG⟩ := hv
  have hx := B.exec
  have hb := B.bytes
  have hr := B.returns
  have hts := atoms_spec (ws := (oh_w yX6_whyNoRow cX6_whyNoRow 2 (some .int))) B.pre
  have htg : ∀ w ∈ oh_t, w.before _ s = true := fun w h => hts w (List.mem_cons_of_mem _ h)
  have hown : s.vm.findClass RX6 = some m.cls := findClass_of_methodNamed B.named
  have hlocks := B.notSynchronized
  have hT0 := hT
  have hS : va_S (fun _ => False) s.heap s.heap [] := va_S.rf
  have hl := lv_entry ([.ref (a 0), .int x1]) (n := 2) (Nat.le_of_ble_eq_true rfl)
  rw [lg_entry_eq]
  generalize (lg_sl ([.ref (a 0), .int x1]) ++ List.replicate (2 - (lg_sl ([.ref (a 0), .int x1])).length) Slot.unset).toArray = ls at hl ⊢
  have hl : lv_has ls 2 [(0, .ref (a 0)), (1, .int x1)] := hl
  refine oh_genQ (fun Q hQ => ?_)
  refine lv_iload_n hx hb dX6_whyNoRow_0 rfl (lv_at hl 1 rfl) ?_
  refine tq_S (As := [.int x1]) (rest := []) (ws := []) ⟨hx, hb, hml, hown, htg⟩ (c_X6_isShelf l D E G x1) (va_cwS 1 htg (oh_gS q_290 q_291 q_66 q_292) rfl rfl rfl pdX6_isShelf ⟨Nat.le_of_ble_eq_true rfl, Nat.le_of_ble_eq_true rfl⟩) hK va_nil hG hS rfl hl.1 rfl (Nat.le_of_ble_eq_true rfl) dX6_whyNoRow_1 ⟨Nat.le_of_ble_eq_true rfl, Nat.le_of_ble_eq_true rfl⟩ (fun r_1 hq_2 => ?_)
  refine lv_if_ne (tgt := 10) hx hb dX6_whyNoRow_4 (by decide) (fun (c_3 : ¬ (r_1 = 0)) => ?_) (fun (c_3 : r_1 = 0) => ?_)
  · have u_4 := hq_2.2.1 c_3
    refine lv_aload_n hx hb dX6_whyNoRow_10 rfl (lv_at hl 0 rfl) ?_
    refine va_get (D := D) (ci := 6) (v := .ref (a 4)) (C := RX6) (T := TX6) (N := 9) hx hb htg ig_6 hown hK hP 0 (oh_wg (by decide) (sX_0 hT)) rfl 4 (by decide) (htg _ q_262) (fun _ h9 => h9) rfl dX6_whyNoRow_11 ?_
    refine lv_iload_n hx hb dX6_whyNoRow_14 rfl (lv_at hl 1 rfl) ?_
    refine tq_V (As := [.int x1]) (rest := []) (ws := (oh_W 35 a C)) ⟨hx, hb, hml, hown, htg⟩ (c_X3_holdsBridge l D E G a C hT x1 (rg_w u_4 (by decide))) (cwV 1 htg (oh_gV q_312 q_313 q_314 q_70 q_315) rfl rfl rfl pdVX3_holdsBridge ⟨Nat.le_of_ble_eq_true rfl, Nat.le_of_ble_eq_true rfl⟩) hK hP hG hS (va_recv hK hP (ci := 3) (q0 := 4) rfl (oh_wg (by decide) (sX_4 hT))) rfl hl.1 rfl (Nat.le_of_ble_eq_true rfl) dX6_whyNoRow_15 ⟨Nat.le_of_ble_eq_true rfl, Nat.le_of_ble_eq_true rfl⟩ (fun r_5 hq_6 => ?_)
    refine lv_if_eq (tgt := 24) hx hb dX6_whyNoRow_18 (by decide) (fun (c_7 : r_5 = 0) => ?_) (fun (c_7 : ¬ (r_5 = 0)) => ?_)
    · refine lv_aload_n hx hb dX6_whyNoRow_24 rfl (lv_at hl 0 rfl) ?_
      refine va_get (D := D) (ci := 6) (v := .ref (a 4)) (C := RX6) (T := TX6) (N := 9) hx hb htg ig_6 hown hK hP 0 (oh_wg (by decide) (sX_0 hT)) rfl 4 (by decide) (htg _ q_262) (fun _ h9 => h9) rfl dX6_whyNoRow_25 ?_
      refine lv_iload_n hx hb dX6_whyNoRow_28 rfl (lv_at hl 1 rfl) ?_
      refine tq_V (As := [.int x1]) (rest := []) (ws := (oh_W 35 a C)) ⟨hx, hb, hml, hown, htg⟩ (c_X3_holdsNothing l D E G a C hT x1 (rg_w u_4 (by decide))) (cwV 1 htg (oh_gV q_316 q_317 q_318 q_70 q_319) rfl rfl rfl pdVX3_holdsNothing ⟨Nat.le_of_ble_eq_true rfl, Nat.le_of_ble_eq_true rfl⟩) hK hP hG hS (va_recv hK hP (ci := 3) (q0 := 4) rfl (oh_wg (by decide) (sX_4 hT))) rfl hl.1 rfl (Nat.le_of_ble_eq_true rfl) dX6_whyNoRow_29 ⟨Nat.le_of_ble_eq_true rfl, Nat.le_of_ble_eq_true rfl⟩ (fun r_8 hq_9 => ?_)
      refine lv_if_eq (tgt := 40) hx hb dX6_whyNoRow_32 (by decide) (fun (c_10 : r_8 = 0) => ?_) (fun (c_10 : ¬ (r_8 = 0)) => ?_)
      · refine lv_iconst (v := 0) hx hb dX6_whyNoRow_40 (by decide) ?_
        rw [hQ]
        exact W.iret (v := 0) hx hb hr (fun t ht hW => ⟨0, rfl, (fun _ => (rg_w u_4 (by decide))), ht⟩) (fun q h => by cases h) dX6_whyNoRow_41
      · refine lv_bipush (v := (-4)) hx hb dX6_whyNoRow_35 (by decide) ?_
        refine lv_goto (tgt := 41) hx hb dX6_whyNoRow_37 (by decide) ?_
        rw [hQ]
        exact W.iret (v := (-4)) hx hb hr (fun t ht hW => ⟨(-4), rfl, (fun h9 => absurd h9 (by decide)), ht⟩) (fun q h => by cases h) dX6_whyNoRow_41
    · refine lv_bipush (v := (-3)) hx hb dX6_whyNoRow_21 (by decide) ?_
      rw [hQ]
      exact W.iret (v := (-3)) hx hb hr (fun t ht hW => ⟨(-3), rfl, (fun h9 => absurd h9 (by decide)), ht⟩) (fun q h => by cases h) dX6_whyNoRow_23
  · have u_11 := hq_2.2.2 c_3
    refine lv_bipush (v := (-2)) hx hb dX6_whyNoRow_7 (by decide) ?_
    rw [hQ]
    exact W.iret (v := (-2)) hx hb hr (fun t ht hW => ⟨(-2), rfl, (fun h9 => absurd h9 (by decide)), ht⟩) (fun q h => by cases h) dX6_whyNoRow_9

set_option maxHeartbeats 4000000 in
set_option maxRecDepth 100000 in
theorem c_X6_whyNotTold (l : Launch) (D : va_G) (E : Nat → ClassId) (G : Nat → Nat) (a : Nat → Nat) (C : Nat → va_E) (hT : TyX a E C) (x1 : Int32) (x2 : Int32) (x3 : Int32) (x4 : Int32) (x5 : Int32) : Met l yX6_whyNotTold (oh_w yX6_whyNotTold cX6_whyNotTold 7 (some .int)) ({ frames := 3, cells := 0, slots := 0, locals := 65 }) (oh_Pp D E G [.ref (a 0), .int x1, .int x2, .int x3, .int x4, .int x5] (oh_W 35 a C)) (vp_Si (fun r => (r = 0 → rg x1 0 4 ∧ rg x3 0 15 ∧ rg x4 0 7 ∧ rg x5 0 20))) 0 0 (fun _ => False) := by
  refine Met.ofW (cc := cX6_whyNotTold) (maxL := 7) (ret := (some .int)) (by decide) rfl ?_
  intro p e s m args below meth c s₁ B hml hv
  obtain ⟨rfl, hP, hK, hG⟩ := hv
  have hx := B.exec
  have hb := B.bytes
  have hr := B.returns
  have hts := atoms_spec (ws := (oh_w yX6_whyNotTold cX6_whyNotTold 7 (some .int))) B.pre
  have htg : ∀ w ∈ oh_t, w.before _ s = true := fun w h => hts w (List.mem_cons_of_mem _ h)
  have hown : s.vm.findClass RX6 = some m.cls := findClass_of_methodNamed B.named
  have hlocks := B.notSynchronized
  have hT0 := hT
  have hS : va_S (fun _ => False) s.heap s.heap [] := va_S.rf
  have hl := lv_entry ([.ref (a 0), .int x1, .int x2, .int x3, .int x4, .int x5]) (n := 7) (Nat.le_of_ble_eq_true rfl)
  rw [lg_entry_eq]
  generalize (lg_sl ([.ref (a 0), .int x1, .int x2, .int x3, .int x4, .int x5]) ++ List.replicate (7 - (lg_sl ([.ref (a 0), .int x1, .int x2, .int x3, .int x4, .int x5])).length) Slot.unset).toArray = ls at hl ⊢
  have hl : lv_has ls 7 [(0, .ref (a 0)), (1, .int x1), (2, .int x2), (3, .int x3), (4, .int x4), (5, .int x5)] := hl
  refine oh_genQ (fun Q hQ => ?_)
  refine lv_aload_n hx hb dX6_whyNotTold_0 rfl (lv_at hl 0 rfl) ?_
  refine lv_iload_n hx hb dX6_whyNotTold_1 rfl (lv_at hl 1 rfl) ?_
  refine lv_iload_n hx hb dX6_whyNotTold_2 rfl (lv_at hl 2 rfl) ?_
  refine tq_V (As := [.int x1, .int x2]) (rest := []) (ws := (oh_W 35 a C)) ⟨hx, hb, hml, hown, htg⟩ (c_X6_isPack l D E G a C hT x1 x2) (cwV 2 htg (oh_gV q_695 q_697 q_16 q_66 q_698) rfl rfl rfl pdVX6_isPack ⟨Nat.le_of_ble_eq_true rfl, Nat.le_of_ble_eq_true rfl⟩) hK hP hG hS (va_recv hK hP (ci := 6) (q0 := 0) rfl (oh_wg (by decide) (sX_0 hT))) rfl hl.1 rfl (Nat.le_of_ble_eq_true rfl) dX6_whyNotTold_3 ⟨Nat.le_of_ble_eq_true rfl, Nat.le_of_ble_eq_true rfl⟩ (fun r_1 hq_2 => ?_)
  refine lv_if_eq (tgt := 35) hx hb dX6_whyNotTold_6 (by decide) (fun (c_3 : r_1 = 0) => ?_) (fun (c_3 : ¬ (r_1 = 0)) => ?_)
  · refine lv_bipush (v := (-2)) hx hb dX6_whyNotTold_35 (by decide) ?_
    rw [hQ]
    exact W.iret (v := (-2)) hx hb hr (fun t ht hW => ⟨(-2), rfl, (fun h9 => absurd h9 (by decide)), ht⟩) (fun q h => by cases h) dX6_whyNotTold_37
  · have u_4 := hq_2.2 c_3
    refine lv_iload_n hx hb dX6_whyNotTold_9 rfl (lv_at hl 3 rfl) ?_
    refine tq_S (As := [.int x3]) (rest := []) (ws := []) ⟨hx, hb, hml, hown, htg⟩ (c_X6_isPlace l D E G x3) (va_cwS 1 htg (oh_gS q_413 q_414 q_66 q_415) rfl rfl rfl pdX6_isPlace ⟨Nat.le_of_ble_eq_true rfl, Nat.le_of_ble_eq_true rfl⟩) hK va_nil hG hS rfl hl.1 rfl (Nat.le_of_ble_eq_true rfl) dX6_whyNotTold_10 ⟨Nat.le_of_ble_eq_true rfl, Nat.le_of_ble_eq_true rfl⟩ (fun r_5 hq_6 => ?_)
    refine lv_if_eq (tgt := 35) hx hb dX6_whyNotTold_13 (by decide) (fun (c_7 : r_5 = 0) => ?_) (fun (c_7 : ¬ (r_5 = 0)) => ?_)
    · refine lv_bipush (v := (-2)) hx hb dX6_whyNotTold_35 (by decide) ?_
      rw [hQ]
      exact W.iret (v := (-2)) hx hb hr (fun t ht hW => ⟨(-2), rfl, (fun h9 => absurd h9 (by decide)), ht⟩) (fun q h => by cases h) dX6_whyNotTold_37
    · have u_8 := hq_6.2 c_7
      refine lv_iload hx hb dX6_whyNotTold_16 (lv_at hl 4 rfl) ?_
      refine tq_S (As := [.int x4]) (rest := []) (ws := []) ⟨hx, hb, hml, hown, htg⟩ (c_X6_isShelf l D E G x4) (va_cwS 1 htg (oh_gS q_290 q_291 q_66 q_292) rfl rfl rfl pdX6_isShelf ⟨Nat.le_of_ble_eq_true rfl, Nat.le_of_ble_eq_true rfl⟩) hK va_nil hG hS rfl hl.1 rfl (Nat.le_of_ble_eq_true rfl) dX6_whyNotTold_18 ⟨Nat.le_of_ble_eq_true rfl, Nat.le_of_ble_eq_true rfl⟩ (fun r_9 hq_10 => ?_)
      refine lv_if_eq (tgt := 35) hx hb dX6_whyNotTold_21 (by decide) (fun (c_11 : r_9 = 0) => ?_) (fun (c_11 : ¬ (r_9 = 0)) => ?_)
      · have u_12 := hq_10.2.2 c_11
        refine lv_bipush (v := (-2)) hx hb dX6_whyNotTold_35 (by decide) ?_
        rw [hQ]
        exact W.iret (v := (-2)) hx hb hr (fun t ht hW => ⟨(-2), rfl, (fun h9 => absurd h9 (by decide)), ht⟩) (fun q h => by cases h) dX6_whyNotTold_37
      · have u_13 := hq_10.2.1 c_11
        refine lv_iload hx hb dX6_whyNotTold_24 (lv_at hl 5 rfl) ?_
        refine lv_iconst (v := 0) hx hb dX6_whyNotTold_26 (by decide) ?_
        refine lv_bipush (v := 20) hx hb dX6_whyNotTold_27 (by decide) ?_
        refine tq_S (As := [.int x5, .int 0, .int 20]) (rest := []) (ws := []) ⟨hx, hb, hml, hown, htg⟩ (c_X6_within l D E G x5 (0 : Int32) (20 : Int32)) (va_cwS 3 htg (oh_gS q_293 q_294 q_66 q_295) rfl rfl rfl pdX6_within ⟨Nat.le_of_ble_eq_true rfl, Nat.le_of_ble_eq_true rfl⟩) hK va_nil hG hS rfl hl.1 rfl (Nat.le_of_ble_eq_true rfl) dX6_whyNotTold_29 ⟨Nat.le_of_ble_eq_true rfl, Nat.le_of_ble_eq_true rfl⟩ (fun r_14 hq_15 => ?_)
        refine lv_if_ne (tgt := 38) hx hb dX6_whyNotTold_32 (by decide) (fun (c_16 : ¬ (r_14 = 0)) => ?_) (fun (c_16 : r_14 = 0) => ?_)
        · have u_17 := hq_15.2.1 c_16
          refine lv_aload_n hx hb dX6_whyNotTold_38 rfl (lv_at hl 0 rfl) ?_
          refine lv_iload hx hb dX6_whyNotTold_39 (lv_at hl 4 rfl) ?_
          refine tq_V (As := [.int x4]) (rest := []) (ws := (oh_W 35 a C)) ⟨hx, hb, hml, hown, htg⟩ (c_X6_whyNoRow l D E G a C hT x4) (cwV 1 htg (oh_gV q_308 q_310 q_1 q_66 q_311) rfl rfl rfl pdVX6_whyNoRow ⟨Nat.le_of_ble_eq_true rfl, Nat.le_of_ble_eq_true rfl⟩) hK hP hG hS (va_recv hK hP (ci := 6) (q0 := 0) rfl (oh_wg (by decide) (sX_0 hT))) rfl hl.1 rfl (Nat.le_of_ble_eq_true rfl) dX6_whyNotTold_41 ⟨Nat.le_of_ble_eq_true rfl, Nat.le_of_ble_eq_true rfl⟩ (fun r_18 hq_19 => ?_)
          refine lv_istore (lv' := [(6, .int r_18), (0, .ref (a 0)), (1, .int x1), (2, .int x2), (3, .int x3), (4, .int x4), (5, .int x5)]) hx hb dX6_whyNotTold_44 hl (by decide) rfl (fun ls hl => ?_)
          refine lv_iload hx hb dX6_whyNotTold_46 (lv_at hl 0 rfl) ?_
          refine lv_if_eq (tgt := 54) hx hb dX6_whyNotTold_48 (by decide) (fun (c_20 : r_18 = 0) => ?_) (fun (c_20 : ¬ (r_18 = 0)) => ?_)
          · have u_21 := hq_19 c_20
            refine lv_iload hx hb dX6_whyNotTold_54 (lv_at hl 6 rfl) ?_
            refine lv_aload_n hx hb dX6_whyNotTold_56 rfl (lv_at hl 1 rfl) ?_
            refine va_get (D := D) (ci := 6) (v := .ref (a 4)) (C := RX6) (T := TX6) (N := 9) hx hb htg ig_6 hown hK hP 0 (oh_wg (by decide) (sX_0 hT)) rfl 4 (by decide) (htg _ q_262) (fun _ h9 => h9) rfl dX6_whyNotTold_57 ?_
            refine va_get (D := D) (ci := 3) (v := .ref (a 30)) (C := RX3) (T := TX3) (N := 3) hx hb htg ig_3 hown hK hP 4 (oh_wg (by decide) (sX_4 hT)) rfl 1 (by decide) (htg _ q_201) (fun _ h9 => h9) rfl dX6_whyNotTold_60 ?_
            refine lv_iload hx hb dX6_whyNotTold_63 (lv_at hl 5 rfl) ?_
            have n_22 : vp_in x4 8 := (rg_in u_13 (by decide))
            refine th_iald hx hb hK hP 30 (by decide) (sX_30 hT) n_22 dX6_whyNotTold_65 ?_
            refine lv_icmp_le (tgt := 74) hx hb dX6_whyNotTold_66 (by decide) (fun (c_23 : x5 ≤ (ga (C 30) (x4).toNatClampNeg)) => ?_) (fun (c_23 : ¬ (x5 ≤ (ga (C 30) (x4).toNatClampNeg))) => ?_)
            · refine lv_iconst (v := 0) hx hb dX6_whyNotTold_74 (by decide) ?_
              rw [hQ]
              exact W.iret (v := 0) hx hb hr (fun t ht hW => ⟨0, rfl, (fun _ => ⟨(rg_w u_4 (by decide)), (rg_w u_8 (by decide)), (rg_w u_13 (by decide)), (rg_w (rn_leu u_17.2 (rn_lel u_17.1 (rg_c (v := 0) (lo := 0) (hi := 0) (by decide)) (rg_any _)) (rg_c (v := 20) (lo := 20) (hi := 20) (by decide))) (by decide))⟩), ht⟩) (fun q h => by cases h) dX6_whyNotTold_75
            · refine lv_bipush (v := (-2)) hx hb dX6_whyNotTold_69 (by decide) ?_
              refine lv_goto (tgt := 75) hx hb dX6_whyNotTold_71 (by decide) ?_
              rw [hQ]
              exact W.iret (v := (-2)) hx hb hr (fun t ht hW => ⟨(-2), rfl, (fun h9 => absurd h9 (by decide)), ht⟩) (fun q h => by cases h) dX6_whyNotTold_75
          · refine lv_iload hx hb dX6_whyNotTold_51 (lv_at hl 0 rfl) ?_
            rw [hQ]
            exact W.iret (v := r_18) hx hb hr (fun t ht hW => ⟨r_18, rfl, (fun h9 => ⟨(rg_w u_4 (by decide)), (rg_w u_8 (by decide)), (rg_w u_13 (by decide)), (rg_w (rn_leu u_17.2 (rn_lel u_17.1 (rg_c (v := 0) (lo := 0) (hi := 0) (by decide)) (rg_any _)) (rg_c (v := 20) (lo := 20) (hi := 20) (by decide))) (by decide))⟩), ht⟩) (fun q h => by cases h) dX6_whyNotTold_53
        · have u_24 := hq_15.2.2 c_16
          refine lv_bipush (v := (-2)) hx hb dX6_whyNotTold_35 (by decide) ?_
          rw [hQ]
          exact W.iret (v := (-2)) hx hb hr (fun t ht hW => ⟨(-2), rfl, (fun h9 => absurd h9 (by decide)), ht⟩) (fun q h => by cases h) dX6_whyNotTold_37

set_option maxHeartbeats 4000000 in
set_option maxRecDepth 100000 in
theorem c_X6_firstWrong (l : Launch) (D : va_G) (E : Nat → ClassId) (G : Nat → Nat) (sz : Nat) (a : Nat → Nat) (C : Nat → va_E) (hT : TyX a E C) (x1 : Int32) (x2 : Int32) (x3 : Int32) (hx1 : rg x1 0 15) (hx2 : rg x2 0 7) (hx3 : rg x3 0 20) : Met l yX6_firstWrong (oh_w yX6_firstWrong cX6_firstWrong 5 (some .int)) ({ frames := 4, cells := 0, slots := 0, locals := 89 }) (oh_Pm D E G [.ref (a 0), .int x1, .int x2, .int x3] (oh_W 35 a C) sz) (va_Qi (fun r (u : Nat → va_E) => TyX a E u ∧ fr [(28, 29)] [] C u ∧ True) (oh_B D (va_A (oh_W 35 a C) sz) (fun u => oh_W 35 a u)) (va_A (oh_W 35 a C) sz)) 0 0 (va_A (oh_W 35 a C) sz) := by
  refine Met.ofW (cc := cX6_firstWrong) (maxL := 5) (ret := (some .int)) (by decide) rfl ?_
  intro p e s m args below meth c s₁ B hml hv
  obtain ⟨rfl, hsz, hP, hK, hD0, hG⟩ := hv
  have hx := B.exec
  have hb := B.bytes
  have hr := B.returns
  have hts := atoms_spec (ws := (oh_w yX6_firstWrong cX6_firstWrong 5 (some .int))) B.pre
  have htg : ∀ w ∈ oh_t, w.before _ s = true := fun w h => hts w (List.mem_cons_of_mem _ h)
  have hown : s.vm.findClass RX6 = some m.cls := findClass_of_methodNamed B.named
  have hlocks := B.notSynchronized
  have hT0 := hT
  subst hsz
  have hD := hD0.self (sz := s.heap.size)
  generalize hAe : va_A (oh_W 35 a C) s.heap.size = A at hD hG ⊢
  have hA : ∀ q : Nat, s.heap.size ≤ q → A q := fun q h => by rw [← hAe]; exact Or.inr h
  have hS : va_S A s.heap s.heap [] := va_S.rf
  have hF : fr [(28, 29)] [] C C := fr_rf
  have hl := lv_entry ([.ref (a 0), .int x1, .int x2, .int x3]) (n := 5) (Nat.le_of_ble_eq_true rfl)
  rw [lg_entry_eq]
  generalize (lg_sl ([.ref (a 0), .int x1, .int x2, .int x3]) ++ List.replicate (5 - (lg_sl ([.ref (a 0), .int x1, .int x2, .int x3])).length) Slot.unset).toArray = ls at hl ⊢
  have hl : lv_has ls 5 [(0, .ref (a 0)), (1, .int x1), (2, .int x2), (3, .int x3)] := hl
  refine oh_genQ (fun Q hQ => ?_)
  refine lv_aload_n hx hb dX6_firstWrong_0 rfl (lv_at hl 0 rfl) ?_
  refine va_get (D := D) (ci := 6) (v := .ref (a 3)) (C := RX6) (T := TX6) (N := 9) hx hb htg ig_6 hown hK hP 0 (oh_wg (by decide) (sX_0 hT)) rfl 3 (by decide) (htg _ q_261) (fun _ h9 => h9) rfl dX6_firstWrong_1 ?_
  refine lv_iload_n hx hb dX6_firstWrong_4 rfl (lv_at hl 1 rfl) ?_
  refine tm_Vv (As := [.int x1]) (rest := []) ⟨hx, hb, hml, hown, htg⟩ (c_X5_setOut l D E G _ a C hT x1 (rg_w hx1 (by decide))) (cwV 1 htg (oh_gV q_838 q_839 q_840 q_68 q_841) rfl rfl rfl pdVX5_setOut ⟨Nat.le_of_ble_eq_true rfl, Nat.le_of_ble_eq_true rfl⟩) hK hP hD hG hS hA (va_recv hK hP (ci := 5) (q0 := 3) rfl (oh_wg (by decide) (sX_3 hT))) rfl hl.1 rfl (Nat.le_of_ble_eq_true rfl) dX6_firstWrong_5 ⟨Nat.le_of_ble_eq_true rfl, Nat.le_of_ble_eq_true rfl⟩ (fun C_2 H locs hq_3 hP hD hS => ?_)
  obtain ⟨hT, f_4, hq_3⟩ := hq_3
  have hF := fr_tr hF f_4 (by decide) (by decide)
  refine W.widen (k := 0) (n := 0) (Nat.le_refl _) (Nat.le_refl _) ?_
  have t_5 := hT
  refine lv_iconst (v := 0) hx hb dX6_firstWrong_8 (by decide) ?_
  refine lv_istore (lv' := [(4, .int 0), (0, .ref (a 0)), (1, .int x1), (2, .int x2), (3, .int x3)]) hx hb dX6_firstWrong_9 hl (by decide) rfl (fun ls hl => ?_)
  have L_11 : ∀ (d : Nat) (K11 : Nat → va_E) (z11_4 : Int32) (H : Heap) (locs : List Loc) (ls : Array Slot), (20 - z11_4.toInt).toNat = d → rg z11_4 0 20 → TyX a E K11 → fr [(28, 29)] [] C K11 → fr [(28, 29)] [] C_2 K11 → va_P D vwCl (oh_W 35 a K11) H → va_D A (oh_W 35 a K11) → va_S A s.heap H locs → lv_has ls 5 [(4, .int z11_4), (0, .ref (a 0)), (1, .int x1), (2, .int x2), (3, .int x3)] → W p l e ({ frames := 4, cells := 0, slots := 0, locals := 89 }) s m (([.ref (a 0), .int x1, .int x2, .int x3] : List Value).toArray) below meth c H locs 0 0 Q (F0 m 11 ls []) := by
    intro d
    induction d using Nat.strongRecOn with
    | ind d ih_11 =>
    intro K11 z11_4 H locs ls hd_11 hz11_4 hT hF hLF_11 hP hD hS hl
    have t_6 := hT
    refine lv_iload hx hb dX6_firstWrong_11 (lv_at hl 0 rfl) ?_
    refine lv_iload_n hx hb dX6_firstWrong_13 rfl (lv_at hl 4 rfl) ?_
    refine lv_icmp_ge (tgt := 46) hx hb dX6_firstWrong_14 (by decide) (fun (c_7 : x3 ≤ z11_4) => ?_) (fun (c_7 : ¬ (x3 ≤ z11_4)) => ?_)
    · refine lv_iconst (v := (-1)) hx hb dX6_firstWrong_46 (by decide) ?_
      rw [hQ]
      exact W.iret (v := (-1)) hx hb hr (fun t ht hW => ⟨⟨(-1), K11, rfl, ⟨hT, hF, trivial⟩, ⟨by rw [ht]; exact hP, hD⟩⟩, hS.F ht⟩) hS.2.2 dX6_firstWrong_47
    · refine lv_aload_n hx hb dX6_firstWrong_17 rfl (lv_at hl 1 rfl) ?_
      refine va_get (D := D) (ci := 6) (v := .ref (a 3)) (C := RX6) (T := TX6) (N := 9) hx hb htg ig_6 hown hK hP 0 (oh_wg (by decide) (sX_0 hT)) rfl 3 (by decide) (htg _ q_261) (fun _ h9 => h9) rfl dX6_firstWrong_18 ?_
      refine lv_aload_n hx hb dX6_firstWrong_21 rfl (lv_at hl 1 rfl) ?_
      refine va_get (D := D) (ci := 6) (v := .ref (a 4)) (C := RX6) (T := TX6) (N := 9) hx hb htg ig_6 hown hK hP 0 (oh_wg (by decide) (sX_0 hT)) rfl 4 (by decide) (htg _ q_262) (fun _ h9 => h9) rfl dX6_firstWrong_22 ?_
      refine lv_iload_n hx hb dX6_firstWrong_25 rfl (lv_at hl 3 rfl) ?_
      refine lv_iload hx hb dX6_firstWrong_26 (lv_at hl 0 rfl) ?_
      refine tq_Vl (As := [.int x2, .int z11_4]) (rest := [.ref (a 3)]) (ws := (oh_W 35 a K11)) ⟨hx, hb, hml, hown, htg⟩ (c_X3_elementAt l D E G a K11 hT x2 z11_4 (rg_w hx2 (by decide))) (cwV 2 htg (oh_gV q_353 q_354 q_355 q_70 q_356) rfl rfl rfl pdVX3_elementAt ⟨Nat.le_of_ble_eq_true rfl, Nat.le_of_ble_eq_true rfl⟩) hK hP hG hS (va_recv hK hP (ci := 3) (q0 := 4) rfl (oh_wg (by decide) (sX_4 hT))) rfl hl.1 rfl (Nat.le_of_ble_eq_true rfl) dX6_firstWrong_28 ⟨Nat.le_of_ble_eq_true rfl, Nat.le_of_ble_eq_true rfl⟩ (fun r_8 hq_9 => ?_)
      refine tm_V (As := [.long r_8]) (rest := []) ⟨hx, hb, hml, hown, htg⟩ (c_X5_walk l D E G _ a K11 hT r_8) (cwV 1 htg (oh_gV q_842 q_843 q_844 q_68 q_845) rfl rfl rfl pdVX5_walk ⟨Nat.le_of_ble_eq_true rfl, Nat.le_of_ble_eq_true rfl⟩) hK hP hD hG hS hA (va_recv hK hP (ci := 5) (q0 := 3) rfl (oh_wg (by decide) (sX_3 hT))) rfl hl.1 rfl (Nat.le_of_ble_eq_true rfl) dX6_firstWrong_31 ⟨Nat.le_of_ble_eq_true rfl, Nat.le_of_ble_eq_true rfl⟩ (fun r_10 C_11 H locs hq_12 hP hD hS => ?_)
      obtain ⟨hT, f_13, hq_12⟩ := hq_12
      have hF := fr_tr hF f_13 (by decide) (by decide)
      refine W.widen (k := 0) (n := 0) (Nat.le_refl _) (Nat.le_refl _) ?_
      have t_14 := hT
      refine lv_if_ne (tgt := 40) hx hb dX6_firstWrong_34 (by decide) (fun (c_15 : ¬ (r_10 = 0)) => ?_) (fun (c_15 : r_10 = 0) => ?_)
      · refine lv_iinc (v := z11_4 + 1) (lv' := [(4, .int (z11_4 + 1)), (0, .ref (a 0)), (1, .int x1), (2, .int x2), (3, .int x3)]) hx hb dX6_firstWrong_40 hl (k := 0) rfl (by rfl) (by decide) rfl (fun ls hl => ?_)
        refine lv_goto (tgt := 11) hx hb dX6_firstWrong_43 (by decide) ?_
        exact ih_11 _ (hd_11 ▸ mu_up 20 (rn_ltu (u' := 19) (Int32.not_le.mp c_7) hz11_4 hx3 (by decide)) (by decide)) C_11 (z11_4 + 1) _ _ ls rfl (rg_w (rg_add (lo := 1) (hi := 20) (rn_ltu (u' := 19) (Int32.not_le.mp c_7) hz11_4 hx3 (by decide)) (rg_c (v := 1) (lo := 1) (hi := 1) (by decide)) (by decide)) (by decide)) hT hF (fr_tr hLF_11 f_13 (by decide) (by decide)) hP hD hS (lv_sub hl [0, 1, 2, 3, 4] rfl)
      · refine lv_iload hx hb dX6_firstWrong_37 (lv_at hl 0 rfl) ?_
        rw [hQ]
        exact W.iret (v := z11_4) hx hb hr (fun t ht hW => ⟨⟨z11_4, C_11, rfl, ⟨hT, hF, trivial⟩, ⟨by rw [ht]; exact hP, hD⟩⟩, hS.F ht⟩) hS.2.2 dX6_firstWrong_39
  exact L_11 _ C_2 0 _ _ ls rfl (rg_w (rg_c (v := 0) (lo := 0) (hi := 0) (by decide)) (by decide)) hT hF fr_rf hP hD hS (lv_sub hl [0, 1, 2, 3, 4] rfl)

set_option maxHeartbeats 4000000 in
set_option maxRecDepth 100000 in
theorem c_X6_spoken (l : Launch) (D : va_G) (E : Nat → ClassId) (G : Nat → Nat) (a : Nat → Nat) (C : Nat → va_E) (hT : TyX a E C) (x1 : Int32) (x2 : Int32) (hx1 : rg x1 0 15) : Met l yX6_spoken (oh_w yX6_spoken cX6_spoken 3 (some .int)) ({ frames := 2, cells := 0, slots := 0, locals := 51 }) (oh_Pp D E G [.ref (a 0), .int x1, .int x2] (oh_W 35 a C)) (vp_Si (fun r => True)) 0 0 (fun _ => False) := by
  refine Met.ofW (cc := cX6_spoken) (maxL := 3) (ret := (some .int)) (by decide) rfl ?_
  intro p e s m args below meth c s₁ B hml hv
  obtain ⟨rfl, hP, hK, hG⟩ := hv
  have hx := B.exec
  have hb := B.bytes
  have hr := B.returns
  have hts := atoms_spec (ws := (oh_w yX6_spoken cX6_spoken 3 (some .int))) B.pre
  have htg : ∀ w ∈ oh_t, w.before _ s = true := fun w h => hts w (List.mem_cons_of_mem _ h)
  have hown : s.vm.findClass RX6 = some m.cls := findClass_of_methodNamed B.named
  have hlocks := B.notSynchronized
  have hT0 := hT
  have hS : va_S (fun _ => False) s.heap s.heap [] := va_S.rf
  have hl := lv_entry ([.ref (a 0), .int x1, .int x2]) (n := 3) (Nat.le_of_ble_eq_true rfl)
  rw [lg_entry_eq]
  generalize (lg_sl ([.ref (a 0), .int x1, .int x2]) ++ List.replicate (3 - (lg_sl ([.ref (a 0), .int x1, .int x2])).length) Slot.unset).toArray = ls at hl ⊢
  have hl : lv_has ls 3 [(0, .ref (a 0)), (1, .int x1), (2, .int x2)] := hl
  refine oh_genQ (fun Q hQ => ?_)
  refine lv_iload_n hx hb dX6_spoken_0 rfl (lv_at hl 2 rfl) ?_
  by_cases c_1 : x2 = 0
  · refine lv_tableIn (off := 35) (tgt := 36) hx hb dX6_spoken_1 (by rw [c_1]; decide) (by rw [c_1]; decide) (by rw [c_1]; decide) (by decide) ?_
    refine lv_aload_n hx hb dX6_spoken_36 rfl (lv_at hl 0 rfl) ?_
    refine va_get (D := D) (ci := 6) (v := .ref (a 1)) (C := RX6) (T := TX6) (N := 9) hx hb htg ig_6 hown hK hP 0 (oh_wg (by decide) (sX_0 hT)) rfl 0 (by decide) (htg _ q_258) (fun _ h9 => h9) rfl dX6_spoken_37 ?_
    refine lv_iload_n hx hb dX6_spoken_40 rfl (lv_at hl 1 rfl) ?_
    refine lv_iconst (v := 0) hx hb dX6_spoken_41 (by decide) ?_
    refine tq_V (As := [.int x1, .int 0]) (rest := []) (ws := (oh_W 35 a C)) ⟨hx, hb, hml, hown, htg⟩ (c_X0_ofBridge l D E G a C hT x1 (0 : Int32) (rg_w hx1 (by decide)) (rg_w (rg_c (v := 0) (lo := 0) (hi := 0) (by decide)) (by decide))) (cwV 2 htg (oh_gV q_392 q_385 q_386 q_67 q_387) rfl rfl rfl pdVX0_ofBridge ⟨Nat.le_of_ble_eq_true rfl, Nat.le_of_ble_eq_true rfl⟩) hK hP hG hS (va_recv hK hP (ci := 0) (q0 := 1) rfl (oh_wg (by decide) (sX_1 hT))) rfl hl.1 rfl (Nat.le_of_ble_eq_true rfl) dX6_spoken_42 ⟨Nat.le_of_ble_eq_true rfl, Nat.le_of_ble_eq_true rfl⟩ (fun r_2 hq_3 => ?_)
    subst hq_3
    rw [hQ]
    exact W.iret (v := ga (C 12) ((x1 * 10) + 0).toNatClampNeg) hx hb hr (fun t ht hW => ⟨ga (C 12) ((x1 * 10) + 0).toNatClampNeg, rfl, trivial, ht⟩) (fun q h => by cases h) dX6_spoken_45
  · by_cases c_4 : x2 = 1
    · refine lv_tableIn (off := 45) (tgt := 46) hx hb dX6_spoken_1 (by rw [c_4]; decide) (by rw [c_4]; decide) (by rw [c_4]; decide) (by decide) ?_
      refine lv_aload_n hx hb dX6_spoken_46 rfl (lv_at hl 0 rfl) ?_
      refine va_get (D := D) (ci := 6) (v := .ref (a 1)) (C := RX6) (T := TX6) (N := 9) hx hb htg ig_6 hown hK hP 0 (oh_wg (by decide) (sX_0 hT)) rfl 0 (by decide) (htg _ q_258) (fun _ h9 => h9) rfl dX6_spoken_47 ?_
      refine lv_iload_n hx hb dX6_spoken_50 rfl (lv_at hl 1 rfl) ?_
      refine tq_V (As := [.int x1]) (rest := []) (ws := (oh_W 35 a C)) ⟨hx, hb, hml, hown, htg⟩ (c_X0_bearsAxle l D E G a C hT x1 (rg_w hx1 (by decide))) (cwV 1 htg (oh_gV q_393 q_394 q_395 q_67 q_396) rfl rfl rfl pdVX0_bearsAxle ⟨Nat.le_of_ble_eq_true rfl, Nat.le_of_ble_eq_true rfl⟩) hK hP hG hS (va_recv hK hP (ci := 0) (q0 := 1) rfl (oh_wg (by decide) (sX_1 hT))) rfl hl.1 rfl (Nat.le_of_ble_eq_true rfl) dX6_spoken_51 ⟨Nat.le_of_ble_eq_true rfl, Nat.le_of_ble_eq_true rfl⟩ (fun r_5 hq_6 => ?_)
      rw [hQ]
      exact W.iret (v := r_5) hx hb hr (fun t ht hW => ⟨r_5, rfl, trivial, ht⟩) (fun q h => by cases h) dX6_spoken_54
    · by_cases c_7 : x2 = 2
      · refine lv_tableIn (off := 45) (tgt := 46) hx hb dX6_spoken_1 (by rw [c_7]; decide) (by rw [c_7]; decide) (by rw [c_7]; decide) (by decide) ?_
        refine lv_aload_n hx hb dX6_spoken_46 rfl (lv_at hl 0 rfl) ?_
        refine va_get (D := D) (ci := 6) (v := .ref (a 1)) (C := RX6) (T := TX6) (N := 9) hx hb htg ig_6 hown hK hP 0 (oh_wg (by decide) (sX_0 hT)) rfl 0 (by decide) (htg _ q_258) (fun _ h9 => h9) rfl dX6_spoken_47 ?_
        refine lv_iload_n hx hb dX6_spoken_50 rfl (lv_at hl 1 rfl) ?_
        refine tq_V (As := [.int x1]) (rest := []) (ws := (oh_W 35 a C)) ⟨hx, hb, hml, hown, htg⟩ (c_X0_bearsAxle l D E G a C hT x1 (rg_w hx1 (by decide))) (cwV 1 htg (oh_gV q_393 q_394 q_395 q_67 q_396) rfl rfl rfl pdVX0_bearsAxle ⟨Nat.le_of_ble_eq_true rfl, Nat.le_of_ble_eq_true rfl⟩) hK hP hG hS (va_recv hK hP (ci := 0) (q0 := 1) rfl (oh_wg (by decide) (sX_1 hT))) rfl hl.1 rfl (Nat.le_of_ble_eq_true rfl) dX6_spoken_51 ⟨Nat.le_of_ble_eq_true rfl, Nat.le_of_ble_eq_true rfl⟩ (fun r_8 hq_9 => ?_)
        rw [hQ]
        exact W.iret (v := r_8) hx hb hr (fun t ht hW => ⟨r_8, rfl, trivial, ht⟩) (fun q h => by cases h) dX6_spoken_54
      · by_cases c_10 : x2 = 3
        · refine lv_tableIn (off := 54) (tgt := 55) hx hb dX6_spoken_1 (by rw [c_10]; decide) (by rw [c_10]; decide) (by rw [c_10]; decide) (by decide) ?_
          refine lv_aload_n hx hb dX6_spoken_55 rfl (lv_at hl 0 rfl) ?_
          refine va_get (D := D) (ci := 6) (v := .ref (a 1)) (C := RX6) (T := TX6) (N := 9) hx hb htg ig_6 hown hK hP 0 (oh_wg (by decide) (sX_0 hT)) rfl 0 (by decide) (htg _ q_258) (fun _ h9 => h9) rfl dX6_spoken_56 ?_
          refine lv_iload_n hx hb dX6_spoken_59 rfl (lv_at hl 1 rfl) ?_
          refine lv_iconst (v := 2) hx hb dX6_spoken_60 (by decide) ?_
          refine tq_V (As := [.int x1, .int 2]) (rest := []) (ws := (oh_W 35 a C)) ⟨hx, hb, hml, hown, htg⟩ (c_X0_ofBridge l D E G a C hT x1 (2 : Int32) (rg_w hx1 (by decide)) (rg_w (rg_c (v := 2) (lo := 2) (hi := 2) (by decide)) (by decide))) (cwV 2 htg (oh_gV q_392 q_385 q_386 q_67 q_387) rfl rfl rfl pdVX0_ofBridge ⟨Nat.le_of_ble_eq_true rfl, Nat.le_of_ble_eq_true rfl⟩) hK hP hG hS (va_recv hK hP (ci := 0) (q0 := 1) rfl (oh_wg (by decide) (sX_1 hT))) rfl hl.1 rfl (Nat.le_of_ble_eq_true rfl) dX6_spoken_61 ⟨Nat.le_of_ble_eq_true rfl, Nat.le_of_ble_eq_true rfl⟩ (fun r_11 hq_12 => ?_)
          subst hq_12
          rw [hQ]
          exact W.iret (v := ga (C 12) ((x1 * 10) + 2).toNatClampNeg) hx hb hr (fun t ht hW => ⟨ga (C 12) ((x1 * 10) + 2).toNatClampNeg, rfl, trivial, ht⟩) (fun q h => by cases h) dX6_spoken_64
        · by_cases c_13 : x2 = 4
          · refine lv_tableIn (off := 64) (tgt := 65) hx hb dX6_spoken_1 (by rw [c_13]; decide) (by rw [c_13]; decide) (by rw [c_13]; decide) (by decide) ?_
            refine lv_aload_n hx hb dX6_spoken_65 rfl (lv_at hl 0 rfl) ?_
            refine va_get (D := D) (ci := 6) (v := .ref (a 1)) (C := RX6) (T := TX6) (N := 9) hx hb htg ig_6 hown hK hP 0 (oh_wg (by decide) (sX_0 hT)) rfl 0 (by decide) (htg _ q_258) (fun _ h9 => h9) rfl dX6_spoken_66 ?_
            refine lv_iload_n hx hb dX6_spoken_69 rfl (lv_at hl 1 rfl) ?_
            refine lv_bipush (v := 9) hx hb dX6_spoken_70 (by decide) ?_
            refine tq_V (As := [.int x1, .int 9]) (rest := []) (ws := (oh_W 35 a C)) ⟨hx, hb, hml, hown, htg⟩ (c_X0_ofBridge l D E G a C hT x1 (9 : Int32) (rg_w hx1 (by decide)) (rg_w (rg_c (v := 9) (lo := 9) (hi := 9) (by decide)) (by decide))) (cwV 2 htg (oh_gV q_392 q_385 q_386 q_67 q_387) rfl rfl rfl pdVX0_ofBridge ⟨Nat.le_of_ble_eq_true rfl, Nat.le_of_ble_eq_true rfl⟩) hK hP hG hS (va_recv hK hP (ci := 0) (q0 := 1) rfl (oh_wg (by decide) (sX_1 hT))) rfl hl.1 rfl (Nat.le_of_ble_eq_true rfl) dX6_spoken_72 ⟨Nat.le_of_ble_eq_true rfl, Nat.le_of_ble_eq_true rfl⟩ (fun r_14 hq_15 => ?_)
            subst hq_15
            rw [hQ]
            exact W.iret (v := ga (C 12) ((x1 * 10) + 9).toNatClampNeg) hx hb hr (fun t ht hW => ⟨ga (C 12) ((x1 * 10) + 9).toNatClampNeg, rfl, trivial, ht⟩) (fun q h => by cases h) dX6_spoken_75
          · refine lv_tableOut (tgt := 76) hx hb dX6_spoken_1 (by have h9 := And.intro (oh_ne c_1 (k := 0) (by decide)) (And.intro (oh_ne c_4 (k := 1) (by decide)) (And.intro (oh_ne c_7 (k := 2) (by decide)) (And.intro (oh_ne c_10 (k := 3) (by decide)) (And.intro (oh_ne c_13 (k := 4) (by decide)) trivial)))); omega) (by decide) ?_
            refine lv_aload_n hx hb dX6_spoken_76 rfl (lv_at hl 0 rfl) ?_
            refine va_get (D := D) (ci := 6) (v := .ref (a 1)) (C := RX6) (T := TX6) (N := 9) hx hb htg ig_6 hown hK hP 0 (oh_wg (by decide) (sX_0 hT)) rfl 0 (by decide) (htg _ q_258) (fun _ h9 => h9) rfl dX6_spoken_77 ?_
            refine lv_iload_n hx hb dX6_spoken_80 rfl (lv_at hl 1 rfl) ?_
            refine lv_aload_n hx hb dX6_spoken_81 rfl (lv_at hl 0 rfl) ?_
            refine va_get (D := D) (ci := 6) (v := .ref (a 1)) (C := RX6) (T := TX6) (N := 9) hx hb htg ig_6 hown hK hP 0 (oh_wg (by decide) (sX_0 hT)) rfl 0 (by decide) (htg _ q_258) (fun _ h9 => h9) rfl dX6_spoken_82 ?_
            refine lv_iload_n hx hb dX6_spoken_85 rfl (lv_at hl 1 rfl) ?_
            refine tq_V (As := [.int x1]) (rest := [.int x1, .ref (a 1)]) (ws := (oh_W 35 a C)) ⟨hx, hb, hml, hown, htg⟩ (c_X0_isPropped l D E G a C hT x1 (rg_w hx1 (by decide))) (cwV 1 htg (oh_gV q_401 q_402 q_403 q_67 q_404) rfl rfl rfl pdVX0_isPropped ⟨Nat.le_of_ble_eq_true rfl, Nat.le_of_ble_eq_true rfl⟩) hK hP hG hS (va_recv hK hP (ci := 0) (q0 := 1) rfl (oh_wg (by decide) (sX_1 hT))) rfl hl.1 rfl (Nat.le_of_ble_eq_true rfl) dX6_spoken_86 ⟨Nat.le_of_ble_eq_true rfl, Nat.le_of_ble_eq_true rfl⟩ (fun r_16 hq_17 => ?_)
            refine tq_V (As := [.int x1, .int r_16]) (rest := []) (ws := (oh_W 35 a C)) ⟨hx, hb, hml, hown, htg⟩ (c_X0_bearsAll l D E G a C hT x1 r_16 (rg_w hx1 (by decide)) (rg_w (oh_rgb hq_17) (by decide))) (cwV 2 htg (oh_gV q_405 q_406 q_407 q_67 q_408) rfl rfl rfl pdVX0_bearsAll ⟨Nat.le_of_ble_eq_true rfl, Nat.le_of_ble_eq_true rfl⟩) hK hP hG hS (va_recv hK hP (ci := 0) (q0 := 1) rfl (oh_wg (by decide) (sX_1 hT))) rfl hl.1 rfl (Nat.le_of_ble_eq_true rfl) dX6_spoken_89 ⟨Nat.le_of_ble_eq_true rfl, Nat.le_of_ble_eq_true rfl⟩ (fun r_18 hq_19 => ?_)
            rw [hQ]
            exact W.iret (v := r_18) hx hb hr (fun t ht hW => ⟨r_18, rfl, trivial, ht⟩) (fun q h => by cases h) dX6_spoken_92

set_option maxHeartbeats 4000000 in
set_option maxRecDepth 100000 in
theorem c_X6_findBest (l : Launch) (D : va_G) (E : Nat → ClassId) (G : Nat → Nat) (sz : Nat) (a : Nat → Nat) (C : Nat → va_E) (hT : TyX a E C) (x1 : Int32) (x2 : Int32) (hx1 : rg x1 0 15) (hx2 : rg x2 0 15) : Met l yX6_findBest (oh_w yX6_findBest cX6_findBest 6 none) ({ frames := 5, cells := 0, slots := 0, locals := 125 }) (oh_Pm D E G [.ref (a 0), .int x1, .int x2] (oh_W 35 a C) sz) (va_Qv (fun (u : Nat → va_E) => TyX a E u ∧ fr [(8, 10), (24, 28)] [] C u ∧ True) (oh_B D (va_A (oh_W 35 a C) sz) (fun u => oh_W 35 a u)) (va_A (oh_W 35 a C) sz)) 0 0 (va_A (oh_W 35 a C) sz) := by
  refine Met.ofW (cc := cX6_findBest) (maxL := 6) (ret := none) (by decide) rfl ?_
  intro p e s m args below meth c s₁ B hml hv
  obtain ⟨rfl, hsz, hP, hK, hD0, hG⟩ := hv
  have hx := B.exec
  have hb := B.bytes
  have hr := B.returns
  have hts := atoms_spec (ws := (oh_w yX6_findBest cX6_findBest 6 none)) B.pre
  have htg : ∀ w ∈ oh_t, w.before _ s = true := fun w h => hts w (List.mem_cons_of_mem _ h)
  have hown : s.vm.findClass RX6 = some m.cls := findClass_of_methodNamed B.named
  have hlocks := B.notSynchronized
  have hT0 := hT
  subst hsz
  have hD := hD0.self (sz := s.heap.size)
  generalize hAe : va_A (oh_W 35 a C) s.heap.size = A at hD hG ⊢
  have hA : ∀ q : Nat, s.heap.size ≤ q → A q := fun q h => by rw [← hAe]; exact Or.inr h
  have hS : va_S A s.heap s.heap [] := va_S.rf
  have hF : fr [(8, 10), (24, 28)] [] C C := fr_rf
  have hl := lv_entry ([.ref (a 0), .int x1, .int x2]) (n := 6) (Nat.le_of_ble_eq_true rfl)
  rw [lg_entry_eq]
  generalize (lg_sl ([.ref (a 0), .int x1, .int x2]) ++ List.replicate (6 - (lg_sl ([.ref (a 0), .int x1, .int x2])).length) Slot.unset).toArray = ls at hl ⊢
  have hl : lv_has ls 6 [(0, .ref (a 0)), (1, .int x1), (2, .int x2)] := hl
  refine oh_genQ (fun Q hQ => ?_)
  refine lv_aload_n hx hb dX6_findBest_0 rfl (lv_at hl 0 rfl) ?_
  refine va_get (D := D) (ci := 6) (v := .ref (a 8)) (C := RX6) (T := TX6) (N := 9) hx hb htg ig_6 hown hK hP 0 (oh_wg (by decide) (sX_0 hT)) rfl 8 (by decide) (htg _ q_266) (fun _ h9 => h9) rfl dX6_findBest_1 ?_
  refine lv_iconst (v := 2) hx hb dX6_findBest_4 (by decide) ?_
  refine lv_ldc (v := 1000000000) hx hb hown (htg _ q_803) dX6_findBest_5 ?_
  refine th_iast (T := TyX a E) (Rl := fr [(8, 10), (24, 28)] [] C) hx hb hK hP hD hS 8 (by decide) (sX_8 hT) (rg_in (rg_c (v := 2) (lo := 2) (hi := 2) (by decide)) (by decide)) (hT.up 8 (tA_upd (tX_8 hT) tA_any)) (fr_st hF (by decide) (by decide)) dX6_findBest_7 (fun C_1 H locs e_2 hT hF hP hD hS => ?_)
  have t_3 := hT
  refine lv_iconst (v := 0) hx hb dX6_findBest_8 (by decide) ?_
  refine lv_istore_n (lv' := [(3, .int 0), (0, .ref (a 0)), (1, .int x1), (2, .int x2)]) hx hb dX6_findBest_9 rfl hl (by decide) rfl (fun ls hl => ?_)
  have L_10 : ∀ (d : Nat) (K10 : Nat → va_E) (z10_3 : Int32) (H : Heap) (locs : List Loc) (ls : Array Slot), (5 - z10_3.toInt).toNat = d → rg z10_3 0 5 → TyX a E K10 → fr [(8, 10), (24, 28)] [] C K10 → fr [(8, 10), (24, 28)] [] C_1 K10 → va_P D vwCl (oh_W 35 a K10) H → va_D A (oh_W 35 a K10) → va_S A s.heap H locs → lv_has ls 6 [(3, .int z10_3), (0, .ref (a 0)), (1, .int x1), (2, .int x2)] → W p l e ({ frames := 5, cells := 0, slots := 0, locals := 125 }) s m (([.ref (a 0), .int x1, .int x2] : List Value).toArray) below meth c H locs 0 0 Q (F0 m 10 ls []) := by
    intro d
    induction d using Nat.strongRecOn with
    | ind d ih_10 =>
    intro K10 z10_3 H locs ls hd_10 hz10_3 hT hF hLF_10 hP hD hS hl
    have t_4 := hT
    refine lv_iload_n hx hb dX6_findBest_10 rfl (lv_at hl 0 rfl) ?_
    refine lv_aload_n hx hb dX6_findBest_11 rfl (lv_at hl 1 rfl) ?_
    refine va_get (D := D) (ci := 6) (v := .ref (a 1)) (C := RX6) (T := TX6) (N := 9) hx hb htg ig_6 hown hK hP 0 (oh_wg (by decide) (sX_0 hT)) rfl 0 (by decide) (htg _ q_258) (fun _ h9 => h9) rfl dX6_findBest_12 ?_
    refine va_get (D := D) (ci := 0) (v := .ref (a 10)) (C := RX0) (T := TX0) (N := 8) hx hb htg ig_0 hown hK hP 1 (oh_wg (by decide) (sX_1 hT)) rfl 0 (by decide) (htg _ q_100) (fun _ h9 => h9) rfl dX6_findBest_15 ?_
    refine lv_iconst (v := 2) hx hb dX6_findBest_18 (by decide) ?_
    refine th_iald hx hb hK hP 10 (by decide) (Eq.trans (Eq.trans (hLF_10.1 10 rfl (by decide)) (th_un e_2 (by decide))) (sX_10 hT0)) (rg_in (rg_c (v := 2) (lo := 2) (hi := 2) (by decide)) (by decide)) dX6_findBest_19 ?_
    refine lv_icmp_ge (tgt := 118) hx hb dX6_findBest_20 (by decide) (fun (c_5 : (ga (C 10) ((2 : Int32)).toNatClampNeg) ≤ z10_3) => ?_) (fun (c_5 : ¬ ((ga (C 10) ((2 : Int32)).toNatClampNeg) ≤ z10_3)) => ?_)
    · rw [hQ]
      exact W.vret hx hb hr (fun t ht hW => ⟨⟨K10, rfl, ⟨hT, hF, trivial⟩, ⟨by rw [ht]; exact hP, hD⟩⟩, hS.F ht⟩) hS.2.2 dX6_findBest_118
    · refine lv_iconst (v := 0) hx hb dX6_findBest_23 (by decide) ?_
      refine lv_istore (lv' := [(4, .int 0), (3, .int z10_3), (0, .ref (a 0)), (1, .int x1), (2, .int x2)]) hx hb dX6_findBest_24 hl (by decide) rfl (fun ls hl => ?_)
      have L_26 : ∀ (d : Nat) (K26 : Nat → va_E) (z26_4 : Int32) (H : Heap) (locs : List Loc) (ls : Array Slot), (32 - z26_4.toInt).toNat = d → rg z26_4 0 32 → TyX a E K26 → fr [(8, 10), (24, 28)] [] C K26 → fr [(8, 10), (24, 28)] [] K10 K26 → va_P D vwCl (oh_W 35 a K26) H → va_D A (oh_W 35 a K26) → va_S A s.heap H locs → lv_has ls 6 [(4, .int z26_4), (3, .int z10_3), (0, .ref (a 0)), (1, .int x1), (2, .int x2)] → W p l e ({ frames := 5, cells := 0, slots := 0, locals := 125 }) s m (([.ref (a 0), .int x1, .int x2] : List Value).toArray) below meth c H locs 0 0 Q (F0 m 26 ls []) := by
        intro d
        induction d using Nat.strongRecOn with
        | ind d ih_26 =>
        intro K26 z26_4 H locs ls hd_26 hz26_4 hT hF hLF_26 hP hD hS hl
        have t_6 := hT
        refine lv_iload hx hb dX6_findBest_26 (lv_at hl 0 rfl) ?_
        refine lv_aload_n hx hb dX6_findBest_28 rfl (lv_at hl 2 rfl) ?_
        refine va_get (D := D) (ci := 6) (v := .ref (a 1)) (C := RX6) (T := TX6) (N := 9) hx hb htg ig_6 hown hK hP 0 (oh_wg (by decide) (sX_0 hT)) rfl 0 (by decide) (htg _ q_258) (fun _ h9 => h9) rfl dX6_findBest_29 ?_
        refine tq_V (As := []) (rest := [.int z26_4]) (ws := (oh_W 35 a K26)) ⟨hx, hb, hml, hown, htg⟩ (c_X0_setsOfParts l D E G a K26 hT) (cwV 0 htg (oh_gV q_699 q_700 q_701 q_67 q_702) rfl rfl rfl pdVX0_setsOfParts ⟨Nat.le_of_ble_eq_true rfl, Nat.le_of_ble_eq_true rfl⟩) hK hP hG hS (va_recv hK hP (ci := 0) (q0 := 1) rfl (oh_wg (by decide) (sX_1 hT))) rfl hl.1 rfl (Nat.le_of_ble_eq_true rfl) dX6_findBest_32 ⟨Nat.le_of_ble_eq_true rfl, Nat.le_of_ble_eq_true rfl⟩ (fun r_7 hq_8 => ?_)
        refine lv_icmp_ge (tgt := 112) hx hb dX6_findBest_35 (by decide) (fun (c_9 : r_7 ≤ z26_4) => ?_) (fun (c_9 : ¬ (r_7 ≤ z26_4)) => ?_)
        · refine lv_iinc (v := z10_3 + 1) (lv' := [(3, .int (z10_3 + 1)), (4, .int z26_4), (0, .ref (a 0)), (1, .int x1), (2, .int x2)]) hx hb dX6_findBest_112 hl (k := 1) rfl (by rfl) (by decide) rfl (fun ls hl => ?_)
          refine lv_goto (tgt := 10) hx hb dX6_findBest_115 (by decide) ?_
          exact ih_10 _ (hd_10 ▸ mu_up 5 (rn_ltu (u' := 4) (Int32.not_le.mp c_5) hz10_3 (tA_rdc (lo := 0) (hi := 5) (tX_10 hT0) (rg_in (rg_c (v := 2) (lo := 2) (hi := 2) (by decide)) (by decide)) (show _ = 2 by decide) (by decide)) (by decide)) (by decide)) K26 (z10_3 + 1) _ _ ls rfl (rg_w (rg_add (lo := 1) (hi := 5) (rn_ltu (u' := 4) (Int32.not_le.mp c_5) hz10_3 (tA_rdc (lo := 0) (hi := 5) (tX_10 hT0) (rg_in (rg_c (v := 2) (lo := 2) (hi := 2) (by decide)) (by decide)) (show _ = 2 by decide) (by decide)) (by decide)) (rg_c (v := 1) (lo := 1) (hi := 1) (by decide)) (by decide)) (by decide)) hT hF (fr_tr hLF_10 hLF_26 (by decide) (by decide)) hP hD hS (lv_sub hl [0, 2, 3, 4] rfl)
        · refine lv_aload_n hx hb dX6_findBest_38 rfl (lv_at hl 2 rfl) ?_
          refine va_get (D := D) (ci := 6) (v := .ref (a 1)) (C := RX6) (T := TX6) (N := 9) hx hb htg ig_6 hown hK hP 0 (oh_wg (by decide) (sX_0 hT)) rfl 0 (by decide) (htg _ q_258) (fun _ h9 => h9) rfl dX6_findBest_39 ?_
          refine lv_iload hx hb dX6_findBest_42 (lv_at hl 0 rfl) ?_
          refine lv_iconst (v := 1) hx hb dX6_findBest_44 (by decide) ?_
          refine tq_V (As := [.int z26_4, .int 1]) (rest := []) (ws := (oh_W 35 a K26)) ⟨hx, hb, hml, hown, htg⟩ (c_X0_sumOfParts l D E G a K26 hT z26_4 (1 : Int32) (rg_w (rg_c (v := 1) (lo := 1) (hi := 1) (by decide)) (by decide))) (cwV 2 htg (oh_gV q_825 q_710 q_711 q_67 q_712) rfl rfl rfl pdVX0_sumOfParts ⟨Nat.le_of_ble_eq_true rfl, Nat.le_of_ble_eq_true rfl⟩) hK hP hG hS (va_recv hK hP (ci := 0) (q0 := 1) rfl (oh_wg (by decide) (sX_1 hT))) rfl hl.1 rfl (Nat.le_of_ble_eq_true rfl) dX6_findBest_45 ⟨Nat.le_of_ble_eq_true rfl, Nat.le_of_ble_eq_true rfl⟩ (fun r_10 hq_11 => ?_)
          refine lv_aload_n hx hb dX6_findBest_48 rfl (lv_at hl 2 rfl) ?_
          refine va_get (D := D) (ci := 6) (v := .ref (a 8)) (C := RX6) (T := TX6) (N := 9) hx hb htg ig_6 hown hK hP 0 (oh_wg (by decide) (sX_0 hT)) rfl 8 (by decide) (htg _ q_266) (fun _ h9 => h9) rfl dX6_findBest_49 ?_
          refine lv_iconst (v := 2) hx hb dX6_findBest_52 (by decide) ?_
          refine th_iald hx hb hK hP 8 (by decide) (sX_8 hT) (rg_in (rg_c (v := 2) (lo := 2) (hi := 2) (by decide)) (by decide)) dX6_findBest_53 ?_
          refine lv_icmp_ge (tgt := 106) hx hb dX6_findBest_54 (by decide) (fun (c_12 : (ga (K26 8) ((2 : Int32)).toNatClampNeg) ≤ r_10) => ?_) (fun (c_12 : ¬ ((ga (K26 8) ((2 : Int32)).toNatClampNeg) ≤ r_10)) => ?_)
          · refine lv_iinc (v := z26_4 + 1) (lv' := [(4, .int (z26_4 + 1)), (3, .int z10_3), (0, .ref (a 0)), (1, .int x1), (2, .int x2)]) hx hb dX6_findBest_106 hl (k := 0) rfl (by rfl) (by decide) rfl (fun ls hl => ?_)
            refine lv_goto (tgt := 26) hx hb dX6_findBest_109 (by decide) ?_
            exact ih_26 _ (hd_26 ▸ mu_up 32 (rn_ltu (u' := 31) (Int32.not_le.mp c_9) hz26_4 hq_8 (by decide)) (by decide)) K26 (z26_4 + 1) _ _ ls rfl (rg_w (rg_add (lo := 1) (hi := 32) (rn_ltu (u' := 31) (Int32.not_le.mp c_9) hz26_4 hq_8 (by decide)) (rg_c (v := 1) (lo := 1) (hi := 1) (by decide)) (by decide)) (by decide)) hT hF hLF_26 hP hD hS (lv_sub hl [0, 1, 2, 3, 4] rfl)
          · refine lv_aload_n hx hb dX6_findBest_57 rfl (lv_at hl 2 rfl) ?_
            refine va_get (D := D) (ci := 6) (v := .ref (a 3)) (C := RX6) (T := TX6) (N := 9) hx hb htg ig_6 hown hK hP 0 (oh_wg (by decide) (sX_0 hT)) rfl 3 (by decide) (htg _ q_261) (fun _ h9 => h9) rfl dX6_findBest_58 ?_
            refine lv_iload_n hx hb dX6_findBest_61 rfl (lv_at hl 1 rfl) ?_
            refine lv_iload hx hb dX6_findBest_62 (lv_at hl 0 rfl) ?_
            refine lv_iload_n hx hb dX6_findBest_64 rfl (lv_at hl 3 rfl) ?_
            refine lv_iload_n hx hb dX6_findBest_65 rfl (lv_at hl 4 rfl) ?_
            refine lv_iconst (v := 1) hx hb dX6_findBest_66 (by decide) ?_
            refine tm_V (As := [.int z10_3, .int z26_4, .int x1, .int x2, .int 1]) (rest := []) ⟨hx, hb, hml, hown, htg⟩ (c_X5_leastCoin l D E G _ a K26 hT z10_3 z26_4 x1 x2 (1 : Int32) (rg_w (rn_ltu (u' := 4) (Int32.not_le.mp c_5) hz10_3 (tA_rdc (lo := 0) (hi := 5) (tX_10 hT0) (rg_in (rg_c (v := 2) (lo := 2) (hi := 2) (by decide)) (by decide)) (show _ = 2 by decide) (by decide)) (by decide)) (by decide)) (rg_w hx1 (by decide)) (rg_w hx2 (by decide))) (cwV 5 htg (oh_gV q_780 q_781 q_782 q_68 q_783) rfl rfl rfl pdVX5_leastCoin ⟨Nat.le_of_ble_eq_true rfl, Nat.le_of_ble_eq_true rfl⟩) hK hP hD hG hS hA (va_recv hK hP (ci := 5) (q0 := 3) rfl (oh_wg (by decide) (sX_3 hT))) rfl hl.1 rfl (Nat.le_of_ble_eq_true rfl) dX6_findBest_67 ⟨Nat.le_of_ble_eq_true rfl, Nat.le_of_ble_eq_true rfl⟩ (fun r_13 C_14 H locs hq_15 hP hD hS => ?_)
            obtain ⟨hT, f_16, hq_15⟩ := hq_15
            have hF := fr_tr hF f_16 (by decide) (by decide)
            refine W.widen (k := 0) (n := 0) (Nat.le_refl _) (Nat.le_refl _) ?_
            have t_17 := hT
            refine lv_istore (lv' := [(5, .int r_13), (4, .int z26_4), (3, .int z10_3), (0, .ref (a 0)), (1, .int x1), (2, .int x2)]) hx hb dX6_findBest_70 hl (by decide) rfl (fun ls hl => ?_)
            refine lv_iload hx hb dX6_findBest_72 (lv_at hl 0 rfl) ?_
            refine lv_aload_n hx hb dX6_findBest_74 rfl (lv_at hl 3 rfl) ?_
            refine va_get (D := D) (ci := 6) (v := .ref (a 8)) (C := RX6) (T := TX6) (N := 9) hx hb htg ig_6 hown hK hP 0 (oh_wg (by decide) (sX_0 hT)) rfl 8 (by decide) (htg _ q_266) (fun _ h9 => h9) rfl dX6_findBest_75 ?_
            refine lv_iconst (v := 2) hx hb dX6_findBest_78 (by decide) ?_
            refine th_iald hx hb hK hP 8 (by decide) (Eq.trans (f_16.1 8 rfl (by decide)) (sX_8 t_6)) (rg_in (rg_c (v := 2) (lo := 2) (hi := 2) (by decide)) (by decide)) dX6_findBest_79 ?_
            refine lv_icmp_ge (tgt := 106) hx hb dX6_findBest_80 (by decide) (fun (c_18 : (ga (K26 8) ((2 : Int32)).toNatClampNeg) ≤ r_13) => ?_) (fun (c_18 : ¬ ((ga (K26 8) ((2 : Int32)).toNatClampNeg) ≤ r_13)) => ?_)
            · refine lv_iinc (v := z26_4 + 1) (lv' := [(4, .int (z26_4 + 1)), (5, .int r_13), (3, .int z10_3), (0, .ref (a 0)), (1, .int x1), (2, .int x2)]) hx hb dX6_findBest_106 hl (k := 1) rfl (by rfl) (by decide) rfl (fun ls hl => ?_)
              refine lv_goto (tgt := 26) hx hb dX6_findBest_109 (by decide) ?_
              exact ih_26 _ (hd_26 ▸ mu_up 32 (rn_ltu (u' := 31) (Int32.not_le.mp c_9) hz26_4 hq_8 (by decide)) (by decide)) C_14 (z26_4 + 1) _ _ ls rfl (rg_w (rg_add (lo := 1) (hi := 32) (rn_ltu (u' := 31) (Int32.not_le.mp c_9) hz26_4 hq_8 (by decide)) (rg_c (v := 1) (lo := 1) (hi := 1) (by decide)) (by decide)) (by decide)) hT hF (fr_tr hLF_26 f_16 (by decide) (by decide)) hP hD hS (lv_sub hl [0, 2, 3, 4, 5] rfl)
            · refine lv_aload_n hx hb dX6_findBest_83 rfl (lv_at hl 3 rfl) ?_
              refine va_get (D := D) (ci := 6) (v := .ref (a 8)) (C := RX6) (T := TX6) (N := 9) hx hb htg ig_6 hown hK hP 0 (oh_wg (by decide) (sX_0 hT)) rfl 8 (by decide) (htg _ q_266) (fun _ h9 => h9) rfl dX6_findBest_84 ?_
              refine lv_iconst (v := 0) hx hb dX6_findBest_87 (by decide) ?_
              refine lv_iload_n hx hb dX6_findBest_88 rfl (lv_at hl 2 rfl) ?_
              refine th_iast (T := TyX a E) (Rl := fr [(8, 10), (24, 28)] [] C) hx hb hK hP hD hS 8 (by decide) (sX_8 hT) (rg_in (rg_c (v := 0) (lo := 0) (hi := 0) (by decide)) (by decide)) (hT.up 8 (tA_upd (tX_8 hT) tA_any)) (fr_st hF (by decide) (by decide)) dX6_findBest_89 (fun C_19 H locs e_20 hT hF hP hD hS => ?_)
              have t_21 := hT
              refine lv_aload_n hx hb dX6_findBest_90 rfl (lv_at hl 3 rfl) ?_
              refine va_get (D := D) (ci := 6) (v := .ref (a 8)) (C := RX6) (T := TX6) (N := 9) hx hb htg ig_6 hown hK hP 0 (oh_wg (by decide) (sX_0 hT)) rfl 8 (by decide) (htg _ q_266) (fun _ h9 => h9) rfl dX6_findBest_91 ?_
              refine lv_iconst (v := 1) hx hb dX6_findBest_94 (by decide) ?_
              refine lv_iload hx hb dX6_findBest_95 (lv_at hl 1 rfl) ?_
              refine th_iast (T := TyX a E) (Rl := fr [(8, 10), (24, 28)] [] C) hx hb hK hP hD hS 8 (by decide) (sX_8 hT) (rg_in (rg_c (v := 1) (lo := 1) (hi := 1) (by decide)) (by decide)) (hT.up 8 (tA_upd (tX_8 hT) tA_any)) (fr_st hF (by decide) (by decide)) dX6_findBest_97 (fun C_22 H locs e_23 hT hF hP hD hS => ?_)
              have t_24 := hT
              refine lv_aload_n hx hb dX6_findBest_98 rfl (lv_at hl 3 rfl) ?_
              refine va_get (D := D) (ci := 6) (v := .ref (a 8)) (C := RX6) (T := TX6) (N := 9) hx hb htg ig_6 hown hK hP 0 (oh_wg (by decide) (sX_0 hT)) rfl 8 (by decide) (htg _ q_266) (fun _ h9 => h9) rfl dX6_findBest_99 ?_
              refine lv_iconst (v := 2) hx hb dX6_findBest_102 (by decide) ?_
              refine lv_iload hx hb dX6_findBest_103 (lv_at hl 0 rfl) ?_
              refine th_iast (T := TyX a E) (Rl := fr [(8, 10), (24, 28)] [] C) hx hb hK hP hD hS 8 (by decide) (sX_8 hT) (rg_in (rg_c (v := 2) (lo := 2) (hi := 2) (by decide)) (by decide)) (hT.up 8 (tA_upd (tX_8 hT) tA_any)) (fr_st hF (by decide) (by decide)) dX6_findBest_105 (fun C_25 H locs e_26 hT hF hP hD hS => ?_)
              have t_27 := hT
              refine lv_iinc (v := z26_4 + 1) (lv' := [(4, .int (z26_4 + 1)), (5, .int r_13), (3, .int z10_3), (0, .ref (a 0)), (1, .int x1), (2, .int x2)]) hx hb dX6_findBest_106 hl (k := 1) rfl (by rfl) (by decide) rfl (fun ls hl => ?_)
              refine lv_goto (tgt := 26) hx hb dX6_findBest_109 (by decide) ?_
              exact ih_26 _ (hd_26 ▸ mu_up 32 (rn_ltu (u' := 31) (Int32.not_le.mp c_9) hz26_4 hq_8 (by decide)) (by decide)) C_25 (z26_4 + 1) _ _ ls rfl (rg_w (rg_add (lo := 1) (hi := 32) (rn_ltu (u' := 31) (Int32.not_le.mp c_9) hz26_4 hq_8 (by decide)) (rg_c (v := 1) (lo := 1) (hi := 1) (by decide)) (by decide)) (by decide)) hT hF (fr_ste (fr_ste (fr_ste (fr_tr hLF_26 f_16 (by decide) (by decide)) e_20 (by decide) (by decide)) e_23 (by decide) (by decide)) e_26 (by decide) (by decide)) hP hD hS (lv_sub hl [0, 2, 3, 4, 5] rfl)
      exact L_26 _ K10 0 _ _ ls rfl (rg_w (rg_c (v := 0) (lo := 0) (hi := 0) (by decide)) (by decide)) hT hF fr_rf hP hD hS (lv_sub hl [0, 1, 2, 3, 4] rfl)
  exact L_10 _ C_1 0 _ _ ls rfl (rg_w (rg_c (v := 0) (lo := 0) (hi := 0) (by decide)) (by decide)) hT hF fr_rf hP hD hS (lv_sub hl [0, 1, 2, 3] rfl)
theorem bg_dJ6_bitCount_0f7a4_0 : bysAt cJ6_bitCount_0f7a4 0 [26, 26, 4, 124, 19, 1, 9, 126, 100, 59, 26, 19, 1, 10, 126, 26, 5, 124] := bysAt_of (by decide +kernel)
theorem dJ6_bitCount_0f7a4_0 : decode cJ6_bitCount_0f7a4 0 = .ok (.iload_n 0, 1) := o_26 (bg_dJ6_bitCount_0f7a4_0 0 26 rfl)
theorem dJ6_bitCount_0f7a4_1 : decode cJ6_bitCount_0f7a4 1 = .ok (.iload_n 0, 1) := o_26 (bg_dJ6_bitCount_0f7a4_0 1 26 rfl)
theorem dJ6_bitCount_0f7a4_2 : decode cJ6_bitCount_0f7a4 2 = .ok (.iconst 1, 1) := o_4 (bg_dJ6_bitCount_0f7a4_0 2 4 rfl)
theorem dJ6_bitCount_0f7a4_3 : decode cJ6_bitCount_0f7a4 3 = .ok (.iushr, 1) := o_124 (bg_dJ6_bitCount_0f7a4_0 3 124 rfl)
theorem dJ6_bitCount_0f7a4_4 : decode cJ6_bitCount_0f7a4 4 = .ok (.ldc_w 265, 3) := o_19 (bg_dJ6_bitCount_0f7a4_0 4 19 rfl) (bg_dJ6_bitCount_0f7a4_0 5 1 rfl) (bg_dJ6_bitCount_0f7a4_0 6 9 rfl)
theorem dJ6_bitCount_0f7a4_7 : decode cJ6_bitCount_0f7a4 7 = .ok (.iand, 1) := o_126 (bg_dJ6_bitCount_0f7a4_0 7 126 rfl)
theorem dJ6_bitCount_0f7a4_8 : decode cJ6_bitCount_0f7a4 8 = .ok (.isub, 1) := o_100 (bg_dJ6_bitCount_0f7a4_0 8 100 rfl)
theorem dJ6_bitCount_0f7a4_9 : decode cJ6_bitCount_0f7a4 9 = .ok (.istore_n 0, 1) := o_59 (bg_dJ6_bitCount_0f7a4_0 9 59 rfl)
theorem dJ6_bitCount_0f7a4_10 : decode cJ6_bitCount_0f7a4 10 = .ok (.iload_n 0, 1) := o_26 (bg_dJ6_bitCount_0f7a4_0 10 26 rfl)
theorem dJ6_bitCount_0f7a4_11 : decode cJ6_bitCount_0f7a4 11 = .ok (.ldc_w 266, 3) := o_19 (bg_dJ6_bitCount_0f7a4_0 11 19 rfl) (bg_dJ6_bitCount_0f7a4_0 12 1 rfl) (bg_dJ6_bitCount_0f7a4_0 13 10 rfl)
theorem dJ6_bitCount_0f7a4_14 : decode cJ6_bitCount_0f7a4 14 = .ok (.iand, 1) := o_126 (bg_dJ6_bitCount_0f7a4_0 14 126 rfl)
theorem dJ6_bitCount_0f7a4_15 : decode cJ6_bitCount_0f7a4 15 = .ok (.iload_n 0, 1) := o_26 (bg_dJ6_bitCount_0f7a4_0 15 26 rfl)
theorem dJ6_bitCount_0f7a4_16 : decode cJ6_bitCount_0f7a4 16 = .ok (.iconst 2, 1) := o_5 (bg_dJ6_bitCount_0f7a4_0 16 5 rfl)
theorem dJ6_bitCount_0f7a4_17 : decode cJ6_bitCount_0f7a4 17 = .ok (.iushr, 1) := o_124 (bg_dJ6_bitCount_0f7a4_0 17 124 rfl)
theorem bg_dJ6_bitCount_0f7a4_18 : bysAt cJ6_bitCount_0f7a4 18 [19, 1, 10, 126, 96, 59, 26, 26, 7, 124, 96, 19, 1, 11, 126, 59, 26, 26] := bysAt_of (by decide +kernel)
theorem dJ6_bitCount_0f7a4_18 : decode cJ6_bitCount_0f7a4 18 = .ok (.ldc_w 266, 3) := o_19 (bg_dJ6_bitCount_0f7a4_18 0 19 rfl) (bg_dJ6_bitCount_0f7a4_18 1 1 rfl) (bg_dJ6_bitCount_0f7a4_18 2 10 rfl)
theorem dJ6_bitCount_0f7a4_21 : decode cJ6_bitCount_0f7a4 21 = .ok (.iand, 1) := o_126 (bg_dJ6_bitCount_0f7a4_18 3 126 rfl)
theorem dJ6_bitCount_0f7a4_22 : decode cJ6_bitCount_0f7a4 22 = .ok (.iadd, 1) := o_96 (bg_dJ6_bitCount_0f7a4_18 4 96 rfl)
theorem dJ6_bitCount_0f7a4_23 : decode cJ6_bitCount_0f7a4 23 = .ok (.istore_n 0, 1) := o_59 (bg_dJ6_bitCount_0f7a4_18 5 59 rfl)
theorem dJ6_bitCount_0f7a4_24 : decode cJ6_bitCount_0f7a4 24 = .ok (.iload_n 0, 1) := o_26 (bg_dJ6_bitCount_0f7a4_18 6 26 rfl)
theorem dJ6_bitCount_0f7a4_25 : decode cJ6_bitCount_0f7a4 25 = .ok (.iload_n 0, 1) := o_26 (bg_dJ6_bitCount_0f7a4_18 7 26 rfl)
theorem dJ6_bitCount_0f7a4_26 : decode cJ6_bitCount_0f7a4 26 = .ok (.iconst 4, 1) := o_7 (bg_dJ6_bitCount_0f7a4_18 8 7 rfl)
theorem dJ6_bitCount_0f7a4_27 : decode cJ6_bitCount_0f7a4 27 = .ok (.iushr, 1) := o_124 (bg_dJ6_bitCount_0f7a4_18 9 124 rfl)
theorem dJ6_bitCount_0f7a4_28 : decode cJ6_bitCount_0f7a4 28 = .ok (.iadd, 1) := o_96 (bg_dJ6_bitCount_0f7a4_18 10 96 rfl)
theorem dJ6_bitCount_0f7a4_29 : decode cJ6_bitCount_0f7a4 29 = .ok (.ldc_w 267, 3) := o_19 (bg_dJ6_bitCount_0f7a4_18 11 19 rfl) (bg_dJ6_bitCount_0f7a4_18 12 1 rfl) (bg_dJ6_bitCount_0f7a4_18 13 11 rfl)
theorem dJ6_bitCount_0f7a4_32 : decode cJ6_bitCount_0f7a4 32 = .ok (.iand, 1) := o_126 (bg_dJ6_bitCount_0f7a4_18 14 126 rfl)
theorem dJ6_bitCount_0f7a4_33 : decode cJ6_bitCount_0f7a4 33 = .ok (.istore_n 0, 1) := o_59 (bg_dJ6_bitCount_0f7a4_18 15 59 rfl)
theorem dJ6_bitCount_0f7a4_34 : decode cJ6_bitCount_0f7a4 34 = .ok (.iload_n 0, 1) := o_26 (bg_dJ6_bitCount_0f7a4_18 16 26 rfl)
theorem dJ6_bitCount_0f7a4_35 : decode cJ6_bitCount_0f7a4 35 = .ok (.iload_n 0, 1) := o_26 (bg_dJ6_bitCount_0f7a4_18 17 26 rfl)
theorem bg_dJ6_bitCount_0f7a4_36 : bysAt cJ6_bitCount_0f7a4 36 [16, 8, 124, 96, 59, 26, 26, 16, 16, 124, 96, 59, 26, 16, 63, 126, 172] := bysAt_of (by decide +kernel)
theorem dJ6_bitCount_0f7a4_36 : decode cJ6_bitCount_0f7a4 36 = .ok (.bipush 8, 2) := o_16 (bg_dJ6_bitCount_0f7a4_36 0 16 rfl) (bg_dJ6_bitCount_0f7a4_36 1 8 rfl) (by decide +kernel)
theorem dJ6_bitCount_0f7a4_38 : decode cJ6_bitCount_0f7a4 38 = .ok (.iushr, 1) := o_124 (bg_dJ6_bitCount_0f7a4_36 2 124 rfl)
theorem dJ6_bitCount_0f7a4_39 : decode cJ6_bitCount_0f7a4 39 = .ok (.iadd, 1) := o_96 (bg_dJ6_bitCount_0f7a4_36 3 96 rfl)
theorem dJ6_bitCount_0f7a4_40 : decode cJ6_bitCount_0f7a4 40 = .ok (.istore_n 0, 1) := o_59 (bg_dJ6_bitCount_0f7a4_36 4 59 rfl)
theorem dJ6_bitCount_0f7a4_41 : decode cJ6_bitCount_0f7a4 41 = .ok (.iload_n 0, 1) := o_26 (bg_dJ6_bitCount_0f7a4_36 5 26 rfl)
theorem dJ6_bitCount_0f7a4_42 : decode cJ6_bitCount_0f7a4 42 = .ok (.iload_n 0, 1) := o_26 (bg_dJ6_bitCount_0f7a4_36 6 26 rfl)
theorem dJ6_bitCount_0f7a4_43 : decode cJ6_bitCount_0f7a4 43 = .ok (.bipush 16, 2) := o_16 (bg_dJ6_bitCount_0f7a4_36 7 16 rfl) (bg_dJ6_bitCount_0f7a4_36 8 16 rfl) (by decide +kernel)
theorem dJ6_bitCount_0f7a4_45 : decode cJ6_bitCount_0f7a4 45 = .ok (.iushr, 1) := o_124 (bg_dJ6_bitCount_0f7a4_36 9 124 rfl)
theorem dJ6_bitCount_0f7a4_46 : decode cJ6_bitCount_0f7a4 46 = .ok (.iadd, 1) := o_96 (bg_dJ6_bitCount_0f7a4_36 10 96 rfl)
theorem dJ6_bitCount_0f7a4_47 : decode cJ6_bitCount_0f7a4 47 = .ok (.istore_n 0, 1) := o_59 (bg_dJ6_bitCount_0f7a4_36 11 59 rfl)
theorem dJ6_bitCount_0f7a4_48 : decode cJ6_bitCount_0f7a4 48 = .ok (.iload_n 0, 1) := o_26 (bg_dJ6_bitCount_0f7a4_36 12 26 rfl)
theorem dJ6_bitCount_0f7a4_49 : decode cJ6_bitCount_0f7a4 49 = .ok (.bipush 63, 2) := o_16 (bg_dJ6_bitCount_0f7a4_36 13 16 rfl) (bg_dJ6_bitCount_0f7a4_36 14 63 rfl) (by decide +kernel)
theorem dJ6_bitCount_0f7a4_51 : decode cJ6_bitCount_0f7a4 51 = .ok (.iand, 1) := o_126 (bg_dJ6_bitCount_0f7a4_36 15 126 rfl)
theorem dJ6_bitCount_0f7a4_52 : decode cJ6_bitCount_0f7a4 52 = .ok (.ireturn, 1) := o_172 (bg_dJ6_bitCount_0f7a4_36 16 172 rfl)
theorem bg_dX6_ask_0 : bysAt cX6_ask 0 [27, 3, 5, 184, 0, 66, 153, 0, 16, 28, 3, 178, 0, 153, 27, 46, 184, 0, 66, 154, 0, 10, 42, 16, 254] := bysAt_of (by decide +kernel)
theorem dX6_ask_0 : decode cX6_ask 0 = .ok (.iload_n 1, 1) := o_27 (bg_dX6_ask_0 0 27 rfl)
theorem dX6_ask_1 : decode cX6_ask 1 = .ok (.iconst 0, 1) := o_3 (bg_dX6_ask_0 1 3 rfl)
theorem dX6_ask_2 : decode cX6_ask 2 = .ok (.iconst 2, 1) := o_5 (bg_dX6_ask_0 2 5 rfl)
theorem dX6_ask_3 : decode cX6_ask 3 = .ok (.invokestatic 66, 3) := o_184 (bg_dX6_ask_0 3 184 rfl) (bg_dX6_ask_0 4 0 rfl) (bg_dX6_ask_0 5 66 rfl)
theorem dX6_ask_6 : decode cX6_ask 6 = .ok (.ifCond .eq 16, 3) := o_153 (bg_dX6_ask_0 6 153 rfl) (bg_dX6_ask_0 7 0 rfl) (bg_dX6_ask_0 8 16 rfl) (by decide +kernel)
theorem dX6_ask_9 : decode cX6_ask 9 = .ok (.iload_n 2, 1) := o_28 (bg_dX6_ask_0 9 28 rfl)
theorem dX6_ask_10 : decode cX6_ask 10 = .ok (.iconst 0, 1) := o_3 (bg_dX6_ask_0 10 3 rfl)
theorem dX6_ask_11 : decode cX6_ask 11 = .ok (.getstatic 153, 3) := o_178 (bg_dX6_ask_0 11 178 rfl) (bg_dX6_ask_0 12 0 rfl) (bg_dX6_ask_0 13 153 rfl)
theorem dX6_ask_14 : decode cX6_ask 14 = .ok (.iload_n 1, 1) := o_27 (bg_dX6_ask_0 14 27 rfl)
theorem dX6_ask_15 : decode cX6_ask 15 = .ok (.iaload, 1) := o_46 (bg_dX6_ask_0 15 46 rfl)
theorem dX6_ask_16 : decode cX6_ask 16 = .ok (.invokestatic 66, 3) := o_184 (bg_dX6_ask_0 16 184 rfl) (bg_dX6_ask_0 17 0 rfl) (bg_dX6_ask_0 18 66 rfl)
theorem dX6_ask_19 : decode cX6_ask 19 = .ok (.ifCond .ne 10, 3) := o_154 (bg_dX6_ask_0 19 154 rfl) (bg_dX6_ask_0 20 0 rfl) (bg_dX6_ask_0 21 10 rfl) (by decide +kernel)
theorem dX6_ask_22 : decode cX6_ask 22 = .ok (.aload_n 0, 1) := o_42 (bg_dX6_ask_0 22 42 rfl)
theorem dX6_ask_23 : decode cX6_ask 23 = .ok (.bipush (-2), 2) := o_16 (bg_dX6_ask_0 23 16 rfl) (bg_dX6_ask_0 24 254 rfl) (by decide +kernel)
theorem bg_dX6_ask_25 : bysAt cX6_ask 25 [182, 0, 70, 172, 42, 180, 0, 10, 180, 0, 156, 27, 46, 62, 42, 180, 0, 10, 180, 0, 156, 27, 28, 79] := bysAt_of (by decide +kernel)
theorem dX6_ask_25 : decode cX6_ask 25 = .ok (.invokevirtual 70, 3) := o_182 (bg_dX6_ask_25 0 182 rfl) (bg_dX6_ask_25 1 0 rfl) (bg_dX6_ask_25 2 70 rfl)
theorem dX6_ask_28 : decode cX6_ask 28 = .ok (.ireturn, 1) := o_172 (bg_dX6_ask_25 3 172 rfl)
theorem dX6_ask_29 : decode cX6_ask 29 = .ok (.aload_n 0, 1) := o_42 (bg_dX6_ask_25 4 42 rfl)
theorem dX6_ask_30 : decode cX6_ask 30 = .ok (.getfield 10, 3) := o_180 (bg_dX6_ask_25 5 180 rfl) (bg_dX6_ask_25 6 0 rfl) (bg_dX6_ask_25 7 10 rfl)
theorem dX6_ask_33 : decode cX6_ask 33 = .ok (.getfield 156, 3) := o_180 (bg_dX6_ask_25 8 180 rfl) (bg_dX6_ask_25 9 0 rfl) (bg_dX6_ask_25 10 156 rfl)
theorem dX6_ask_36 : decode cX6_ask 36 = .ok (.iload_n 1, 1) := o_27 (bg_dX6_ask_25 11 27 rfl)
theorem dX6_ask_37 : decode cX6_ask 37 = .ok (.iaload, 1) := o_46 (bg_dX6_ask_25 12 46 rfl)
theorem dX6_ask_38 : decode cX6_ask 38 = .ok (.istore_n 3, 1) := o_62 (bg_dX6_ask_25 13 62 rfl)
theorem dX6_ask_39 : decode cX6_ask 39 = .ok (.aload_n 0, 1) := o_42 (bg_dX6_ask_25 14 42 rfl)
theorem dX6_ask_40 : decode cX6_ask 40 = .ok (.getfield 10, 3) := o_180 (bg_dX6_ask_25 15 180 rfl) (bg_dX6_ask_25 16 0 rfl) (bg_dX6_ask_25 17 10 rfl)
theorem dX6_ask_43 : decode cX6_ask 43 = .ok (.getfield 156, 3) := o_180 (bg_dX6_ask_25 18 180 rfl) (bg_dX6_ask_25 19 0 rfl) (bg_dX6_ask_25 20 156 rfl)
theorem dX6_ask_46 : decode cX6_ask 46 = .ok (.iload_n 1, 1) := o_27 (bg_dX6_ask_25 21 27 rfl)
theorem dX6_ask_47 : decode cX6_ask 47 = .ok (.iload_n 2, 1) := o_28 (bg_dX6_ask_25 22 28 rfl)
theorem dX6_ask_48 : decode cX6_ask 48 = .ok (.iastore, 1) := o_79 (bg_dX6_ask_25 23 79 rfl)
theorem bg_dX6_ask_49 : bysAt cX6_ask 49 [29, 172] := bysAt_of (by decide +kernel)
theorem dX6_ask_49 : decode cX6_ask 49 = .ok (.iload_n 3, 1) := o_29 (bg_dX6_ask_49 0 29 rfl)
theorem dX6_ask_50 : decode cX6_ask 50 = .ok (.ireturn, 1) := o_172 (bg_dX6_ask_49 1 172 rfl)
theorem bg_dX6_axle_0 : bysAt cX6_axle 0 [42, 27, 28, 182, 0, 200, 154, 0, 10, 42, 16, 254, 182, 0, 70, 172, 42, 180, 0, 28, 180, 0, 203, 42, 180, 0, 10] := bysAt_of (by decide +kernel)
theorem dX6_axle_0 : decode cX6_axle 0 = .ok (.aload_n 0, 1) := o_42 (bg_dX6_axle_0 0 42 rfl)
theorem dX6_axle_1 : decode cX6_axle 1 = .ok (.iload_n 1, 1) := o_27 (bg_dX6_axle_0 1 27 rfl)
theorem dX6_axle_2 : decode cX6_axle 2 = .ok (.iload_n 2, 1) := o_28 (bg_dX6_axle_0 2 28 rfl)
theorem dX6_axle_3 : decode cX6_axle 3 = .ok (.invokevirtual 200, 3) := o_182 (bg_dX6_axle_0 3 182 rfl) (bg_dX6_axle_0 4 0 rfl) (bg_dX6_axle_0 5 200 rfl)
theorem dX6_axle_6 : decode cX6_axle 6 = .ok (.ifCond .ne 10, 3) := o_154 (bg_dX6_axle_0 6 154 rfl) (bg_dX6_axle_0 7 0 rfl) (bg_dX6_axle_0 8 10 rfl) (by decide +kernel)
theorem dX6_axle_9 : decode cX6_axle 9 = .ok (.aload_n 0, 1) := o_42 (bg_dX6_axle_0 9 42 rfl)
theorem dX6_axle_10 : decode cX6_axle 10 = .ok (.bipush (-2), 2) := o_16 (bg_dX6_axle_0 10 16 rfl) (bg_dX6_axle_0 11 254 rfl) (by decide +kernel)
theorem dX6_axle_12 : decode cX6_axle 12 = .ok (.invokevirtual 70, 3) := o_182 (bg_dX6_axle_0 12 182 rfl) (bg_dX6_axle_0 13 0 rfl) (bg_dX6_axle_0 14 70 rfl)
theorem dX6_axle_15 : decode cX6_axle 15 = .ok (.ireturn, 1) := o_172 (bg_dX6_axle_0 15 172 rfl)
theorem dX6_axle_16 : decode cX6_axle 16 = .ok (.aload_n 0, 1) := o_42 (bg_dX6_axle_0 16 42 rfl)
theorem dX6_axle_17 : decode cX6_axle 17 = .ok (.getfield 28, 3) := o_180 (bg_dX6_axle_0 17 180 rfl) (bg_dX6_axle_0 18 0 rfl) (bg_dX6_axle_0 19 28 rfl)
theorem dX6_axle_20 : decode cX6_axle 20 = .ok (.getfield 203, 3) := o_180 (bg_dX6_axle_0 20 180 rfl) (bg_dX6_axle_0 21 0 rfl) (bg_dX6_axle_0 22 203 rfl)
theorem dX6_axle_23 : decode cX6_axle 23 = .ok (.aload_n 0, 1) := o_42 (bg_dX6_axle_0 23 42 rfl)
theorem dX6_axle_24 : decode cX6_axle 24 = .ok (.getfield 10, 3) := o_180 (bg_dX6_axle_0 24 180 rfl) (bg_dX6_axle_0 25 0 rfl) (bg_dX6_axle_0 26 10 rfl)
theorem bg_dX6_axle_27 : bysAt cX6_axle 27 [27, 28, 182, 0, 207, 42, 180, 0, 28, 180, 0, 203, 180, 0, 213, 172] := bysAt_of (by decide +kernel)
theorem dX6_axle_27 : decode cX6_axle 27 = .ok (.iload_n 1, 1) := o_27 (bg_dX6_axle_27 0 27 rfl)
theorem dX6_axle_28 : decode cX6_axle 28 = .ok (.iload_n 2, 1) := o_28 (bg_dX6_axle_27 1 28 rfl)
theorem dX6_axle_29 : decode cX6_axle 29 = .ok (.invokevirtual 207, 3) := o_182 (bg_dX6_axle_27 2 182 rfl) (bg_dX6_axle_27 3 0 rfl) (bg_dX6_axle_27 4 207 rfl)
theorem dX6_axle_32 : decode cX6_axle 32 = .ok (.aload_n 0, 1) := o_42 (bg_dX6_axle_27 5 42 rfl)
theorem dX6_axle_33 : decode cX6_axle 33 = .ok (.getfield 28, 3) := o_180 (bg_dX6_axle_27 6 180 rfl) (bg_dX6_axle_27 7 0 rfl) (bg_dX6_axle_27 8 28 rfl)
theorem dX6_axle_36 : decode cX6_axle 36 = .ok (.getfield 203, 3) := o_180 (bg_dX6_axle_27 9 180 rfl) (bg_dX6_axle_27 10 0 rfl) (bg_dX6_axle_27 11 203 rfl)
theorem dX6_axle_39 : decode cX6_axle 39 = .ok (.getfield 213, 3) := o_180 (bg_dX6_axle_27 12 180 rfl) (bg_dX6_axle_27 13 0 rfl) (bg_dX6_axle_27 14 213 rfl)
theorem dX6_axle_42 : decode cX6_axle 42 = .ok (.ireturn, 1) := o_172 (bg_dX6_axle_27 15 172 rfl)
theorem bg_dX6_bears_0 : bysAt cX6_bears 0 [42, 27, 182, 0, 112, 154, 0, 10, 42, 16, 254, 182, 0, 70, 172, 28, 153, 0, 22, 42, 180, 0, 10, 27, 42] := bysAt_of (by decide +kernel)
theorem dX6_bears_0 : decode cX6_bears 0 = .ok (.aload_n 0, 1) := o_42 (bg_dX6_bears_0 0 42 rfl)
theorem dX6_bears_1 : decode cX6_bears 1 = .ok (.iload_n 1, 1) := o_27 (bg_dX6_bears_0 1 27 rfl)
theorem dX6_bears_2 : decode cX6_bears 2 = .ok (.invokevirtual 112, 3) := o_182 (bg_dX6_bears_0 2 182 rfl) (bg_dX6_bears_0 3 0 rfl) (bg_dX6_bears_0 4 112 rfl)
theorem dX6_bears_5 : decode cX6_bears 5 = .ok (.ifCond .ne 10, 3) := o_154 (bg_dX6_bears_0 5 154 rfl) (bg_dX6_bears_0 6 0 rfl) (bg_dX6_bears_0 7 10 rfl) (by decide +kernel)
theorem dX6_bears_8 : decode cX6_bears 8 = .ok (.aload_n 0, 1) := o_42 (bg_dX6_bears_0 8 42 rfl)
theorem dX6_bears_9 : decode cX6_bears 9 = .ok (.bipush (-2), 2) := o_16 (bg_dX6_bears_0 9 16 rfl) (bg_dX6_bears_0 10 254 rfl) (by decide +kernel)
theorem dX6_bears_11 : decode cX6_bears 11 = .ok (.invokevirtual 70, 3) := o_182 (bg_dX6_bears_0 11 182 rfl) (bg_dX6_bears_0 12 0 rfl) (bg_dX6_bears_0 13 70 rfl)
theorem dX6_bears_14 : decode cX6_bears 14 = .ok (.ireturn, 1) := o_172 (bg_dX6_bears_0 14 172 rfl)
theorem dX6_bears_15 : decode cX6_bears 15 = .ok (.iload_n 2, 1) := o_28 (bg_dX6_bears_0 15 28 rfl)
theorem dX6_bears_16 : decode cX6_bears 16 = .ok (.ifCond .eq 22, 3) := o_153 (bg_dX6_bears_0 16 153 rfl) (bg_dX6_bears_0 17 0 rfl) (bg_dX6_bears_0 18 22 rfl) (by decide +kernel)
theorem dX6_bears_19 : decode cX6_bears 19 = .ok (.aload_n 0, 1) := o_42 (bg_dX6_bears_0 19 42 rfl)
theorem dX6_bears_20 : decode cX6_bears 20 = .ok (.getfield 10, 3) := o_180 (bg_dX6_bears_0 20 180 rfl) (bg_dX6_bears_0 21 0 rfl) (bg_dX6_bears_0 22 10 rfl)
theorem dX6_bears_23 : decode cX6_bears 23 = .ok (.iload_n 1, 1) := o_27 (bg_dX6_bears_0 23 27 rfl)
theorem dX6_bears_24 : decode cX6_bears 24 = .ok (.aload_n 0, 1) := o_42 (bg_dX6_bears_0 24 42 rfl)
theorem bg_dX6_bears_25 : bysAt cX6_bears 25 [180, 0, 10, 27, 182, 0, 184, 182, 0, 187, 167, 0, 11, 42, 180, 0, 10, 27, 182, 0, 191, 172] := bysAt_of (by decide +kernel)
theorem dX6_bears_25 : decode cX6_bears 25 = .ok (.getfield 10, 3) := o_180 (bg_dX6_bears_25 0 180 rfl) (bg_dX6_bears_25 1 0 rfl) (bg_dX6_bears_25 2 10 rfl)
theorem dX6_bears_28 : decode cX6_bears 28 = .ok (.iload_n 1, 1) := o_27 (bg_dX6_bears_25 3 27 rfl)
theorem dX6_bears_29 : decode cX6_bears 29 = .ok (.invokevirtual 184, 3) := o_182 (bg_dX6_bears_25 4 182 rfl) (bg_dX6_bears_25 5 0 rfl) (bg_dX6_bears_25 6 184 rfl)
theorem dX6_bears_32 : decode cX6_bears 32 = .ok (.invokevirtual 187, 3) := o_182 (bg_dX6_bears_25 7 182 rfl) (bg_dX6_bears_25 8 0 rfl) (bg_dX6_bears_25 9 187 rfl)
theorem dX6_bears_35 : decode cX6_bears 35 = .ok (.goto 11, 3) := o_167 (bg_dX6_bears_25 10 167 rfl) (bg_dX6_bears_25 11 0 rfl) (bg_dX6_bears_25 12 11 rfl) (by decide +kernel)
theorem dX6_bears_38 : decode cX6_bears 38 = .ok (.aload_n 0, 1) := o_42 (bg_dX6_bears_25 13 42 rfl)
theorem dX6_bears_39 : decode cX6_bears 39 = .ok (.getfield 10, 3) := o_180 (bg_dX6_bears_25 14 180 rfl) (bg_dX6_bears_25 15 0 rfl) (bg_dX6_bears_25 16 10 rfl)
theorem dX6_bears_42 : decode cX6_bears 42 = .ok (.iload_n 1, 1) := o_27 (bg_dX6_bears_25 17 27 rfl)
theorem dX6_bears_43 : decode cX6_bears 43 = .ok (.invokevirtual 191, 3) := o_182 (bg_dX6_bears_25 18 182 rfl) (bg_dX6_bears_25 19 0 rfl) (bg_dX6_bears_25 20 191 rfl)
theorem dX6_bears_46 : decode cX6_bears 46 = .ok (.ireturn, 1) := o_172 (bg_dX6_bears_25 21 172 rfl)
theorem bg_dX6_bridge_0 : bysAt cX6_bridge 0 [42, 27, 182, 0, 136, 153, 0, 45, 28, 3, 8, 184, 0, 66, 153, 0, 36, 29, 3, 16, 60, 184, 0, 66, 153, 0, 26] := bysAt_of (by decide +kernel)
theorem dX6_bridge_0 : decode cX6_bridge 0 = .ok (.aload_n 0, 1) := o_42 (bg_dX6_bridge_0 0 42 rfl)
theorem dX6_bridge_1 : decode cX6_bridge 1 = .ok (.iload_n 1, 1) := o_27 (bg_dX6_bridge_0 1 27 rfl)
theorem dX6_bridge_2 : decode cX6_bridge 2 = .ok (.invokevirtual 136, 3) := o_182 (bg_dX6_bridge_0 2 182 rfl) (bg_dX6_bridge_0 3 0 rfl) (bg_dX6_bridge_0 4 136 rfl)
theorem dX6_bridge_5 : decode cX6_bridge 5 = .ok (.ifCond .eq 45, 3) := o_153 (bg_dX6_bridge_0 5 153 rfl) (bg_dX6_bridge_0 6 0 rfl) (bg_dX6_bridge_0 7 45 rfl) (by decide +kernel)
theorem dX6_bridge_8 : decode cX6_bridge 8 = .ok (.iload_n 2, 1) := o_28 (bg_dX6_bridge_0 8 28 rfl)
theorem dX6_bridge_9 : decode cX6_bridge 9 = .ok (.iconst 0, 1) := o_3 (bg_dX6_bridge_0 9 3 rfl)
theorem dX6_bridge_10 : decode cX6_bridge 10 = .ok (.iconst 5, 1) := o_8 (bg_dX6_bridge_0 10 8 rfl)
theorem dX6_bridge_11 : decode cX6_bridge 11 = .ok (.invokestatic 66, 3) := o_184 (bg_dX6_bridge_0 11 184 rfl) (bg_dX6_bridge_0 12 0 rfl) (bg_dX6_bridge_0 13 66 rfl)
theorem dX6_bridge_14 : decode cX6_bridge 14 = .ok (.ifCond .eq 36, 3) := o_153 (bg_dX6_bridge_0 14 153 rfl) (bg_dX6_bridge_0 15 0 rfl) (bg_dX6_bridge_0 16 36 rfl) (by decide +kernel)
theorem dX6_bridge_17 : decode cX6_bridge 17 = .ok (.iload_n 3, 1) := o_29 (bg_dX6_bridge_0 17 29 rfl)
theorem dX6_bridge_18 : decode cX6_bridge 18 = .ok (.iconst 0, 1) := o_3 (bg_dX6_bridge_0 18 3 rfl)
theorem dX6_bridge_19 : decode cX6_bridge 19 = .ok (.bipush 60, 2) := o_16 (bg_dX6_bridge_0 19 16 rfl) (bg_dX6_bridge_0 20 60 rfl) (by decide +kernel)
theorem dX6_bridge_21 : decode cX6_bridge 21 = .ok (.invokestatic 66, 3) := o_184 (bg_dX6_bridge_0 21 184 rfl) (bg_dX6_bridge_0 22 0 rfl) (bg_dX6_bridge_0 23 66 rfl)
theorem dX6_bridge_24 : decode cX6_bridge 24 = .ok (.ifCond .eq 26, 3) := o_153 (bg_dX6_bridge_0 24 153 rfl) (bg_dX6_bridge_0 25 0 rfl) (bg_dX6_bridge_0 26 26 rfl) (by decide +kernel)
theorem bg_dX6_bridge_27 : bysAt cX6_bridge 27 [21, 4, 4, 16, 99, 184, 0, 66, 153, 0, 15, 21, 5, 4, 17, 3, 231, 184, 0, 66, 154, 0, 10, 42, 16, 254, 182, 0, 70, 172] := bysAt_of (by decide +kernel)
theorem dX6_bridge_27 : decode cX6_bridge 27 = .ok (.iload 4, 2) := o_21 (bg_dX6_bridge_27 0 21 rfl) (bg_dX6_bridge_27 1 4 rfl)
theorem dX6_bridge_29 : decode cX6_bridge 29 = .ok (.iconst 1, 1) := o_4 (bg_dX6_bridge_27 2 4 rfl)
theorem dX6_bridge_30 : decode cX6_bridge 30 = .ok (.bipush 99, 2) := o_16 (bg_dX6_bridge_27 3 16 rfl) (bg_dX6_bridge_27 4 99 rfl) (by decide +kernel)
theorem dX6_bridge_32 : decode cX6_bridge 32 = .ok (.invokestatic 66, 3) := o_184 (bg_dX6_bridge_27 5 184 rfl) (bg_dX6_bridge_27 6 0 rfl) (bg_dX6_bridge_27 7 66 rfl)
theorem dX6_bridge_35 : decode cX6_bridge 35 = .ok (.ifCond .eq 15, 3) := o_153 (bg_dX6_bridge_27 8 153 rfl) (bg_dX6_bridge_27 9 0 rfl) (bg_dX6_bridge_27 10 15 rfl) (by decide +kernel)
theorem dX6_bridge_38 : decode cX6_bridge 38 = .ok (.iload 5, 2) := o_21 (bg_dX6_bridge_27 11 21 rfl) (bg_dX6_bridge_27 12 5 rfl)
theorem dX6_bridge_40 : decode cX6_bridge 40 = .ok (.iconst 1, 1) := o_4 (bg_dX6_bridge_27 13 4 rfl)
theorem dX6_bridge_41 : decode cX6_bridge 41 = .ok (.sipush 999, 3) := o_17 (bg_dX6_bridge_27 14 17 rfl) (bg_dX6_bridge_27 15 3 rfl) (bg_dX6_bridge_27 16 231 rfl) (by decide +kernel)
theorem dX6_bridge_44 : decode cX6_bridge 44 = .ok (.invokestatic 66, 3) := o_184 (bg_dX6_bridge_27 17 184 rfl) (bg_dX6_bridge_27 18 0 rfl) (bg_dX6_bridge_27 19 66 rfl)
theorem dX6_bridge_47 : decode cX6_bridge 47 = .ok (.ifCond .ne 10, 3) := o_154 (bg_dX6_bridge_27 20 154 rfl) (bg_dX6_bridge_27 21 0 rfl) (bg_dX6_bridge_27 22 10 rfl) (by decide +kernel)
theorem dX6_bridge_50 : decode cX6_bridge 50 = .ok (.aload_n 0, 1) := o_42 (bg_dX6_bridge_27 23 42 rfl)
theorem dX6_bridge_51 : decode cX6_bridge 51 = .ok (.bipush (-2), 2) := o_16 (bg_dX6_bridge_27 24 16 rfl) (bg_dX6_bridge_27 25 254 rfl) (by decide +kernel)
theorem dX6_bridge_53 : decode cX6_bridge 53 = .ok (.invokevirtual 70, 3) := o_182 (bg_dX6_bridge_27 26 182 rfl) (bg_dX6_bridge_27 27 0 rfl) (bg_dX6_bridge_27 28 70 rfl)
theorem dX6_bridge_56 : decode cX6_bridge 56 = .ok (.ireturn, 1) := o_172 (bg_dX6_bridge_27 29 172 rfl)
theorem bg_dX6_bridge_57 : bysAt cX6_bridge 57 [42, 180, 0, 10, 4, 182, 0, 129, 154, 0, 10, 42, 16, 250, 182, 0, 70, 172, 42, 180, 0, 10, 27, 28, 29] := bysAt_of (by decide +kernel)
theorem dX6_bridge_57 : decode cX6_bridge 57 = .ok (.aload_n 0, 1) := o_42 (bg_dX6_bridge_57 0 42 rfl)
theorem dX6_bridge_58 : decode cX6_bridge 58 = .ok (.getfield 10, 3) := o_180 (bg_dX6_bridge_57 1 180 rfl) (bg_dX6_bridge_57 2 0 rfl) (bg_dX6_bridge_57 3 10 rfl)
theorem dX6_bridge_61 : decode cX6_bridge 61 = .ok (.iconst 1, 1) := o_4 (bg_dX6_bridge_57 4 4 rfl)
theorem dX6_bridge_62 : decode cX6_bridge 62 = .ok (.invokevirtual 129, 3) := o_182 (bg_dX6_bridge_57 5 182 rfl) (bg_dX6_bridge_57 6 0 rfl) (bg_dX6_bridge_57 7 129 rfl)
theorem dX6_bridge_65 : decode cX6_bridge 65 = .ok (.ifCond .ne 10, 3) := o_154 (bg_dX6_bridge_57 8 154 rfl) (bg_dX6_bridge_57 9 0 rfl) (bg_dX6_bridge_57 10 10 rfl) (by decide +kernel)
theorem dX6_bridge_68 : decode cX6_bridge 68 = .ok (.aload_n 0, 1) := o_42 (bg_dX6_bridge_57 11 42 rfl)
theorem dX6_bridge_69 : decode cX6_bridge 69 = .ok (.bipush (-6), 2) := o_16 (bg_dX6_bridge_57 12 16 rfl) (bg_dX6_bridge_57 13 250 rfl) (by decide +kernel)
theorem dX6_bridge_71 : decode cX6_bridge 71 = .ok (.invokevirtual 70, 3) := o_182 (bg_dX6_bridge_57 14 182 rfl) (bg_dX6_bridge_57 15 0 rfl) (bg_dX6_bridge_57 16 70 rfl)
theorem dX6_bridge_74 : decode cX6_bridge 74 = .ok (.ireturn, 1) := o_172 (bg_dX6_bridge_57 17 172 rfl)
theorem dX6_bridge_75 : decode cX6_bridge 75 = .ok (.aload_n 0, 1) := o_42 (bg_dX6_bridge_57 18 42 rfl)
theorem dX6_bridge_76 : decode cX6_bridge 76 = .ok (.getfield 10, 3) := o_180 (bg_dX6_bridge_57 19 180 rfl) (bg_dX6_bridge_57 20 0 rfl) (bg_dX6_bridge_57 21 10 rfl)
theorem dX6_bridge_79 : decode cX6_bridge 79 = .ok (.iload_n 1, 1) := o_27 (bg_dX6_bridge_57 22 27 rfl)
theorem dX6_bridge_80 : decode cX6_bridge 80 = .ok (.iload_n 2, 1) := o_28 (bg_dX6_bridge_57 23 28 rfl)
theorem dX6_bridge_81 : decode cX6_bridge 81 = .ok (.iload_n 3, 1) := o_29 (bg_dX6_bridge_57 24 29 rfl)
theorem bg_dX6_bridge_82 : bysAt cX6_bridge 82 [21, 4, 21, 5, 182, 0, 139, 172] := bysAt_of (by decide +kernel)
theorem dX6_bridge_82 : decode cX6_bridge 82 = .ok (.iload 4, 2) := o_21 (bg_dX6_bridge_82 0 21 rfl) (bg_dX6_bridge_82 1 4 rfl)
theorem dX6_bridge_84 : decode cX6_bridge 84 = .ok (.iload 5, 2) := o_21 (bg_dX6_bridge_82 2 21 rfl) (bg_dX6_bridge_82 3 5 rfl)
theorem dX6_bridge_86 : decode cX6_bridge 86 = .ok (.invokevirtual 139, 3) := o_182 (bg_dX6_bridge_82 4 182 rfl) (bg_dX6_bridge_82 5 0 rfl) (bg_dX6_bridge_82 6 139 rfl)
theorem dX6_bridge_89 : decode cX6_bridge 89 = .ok (.ireturn, 1) := o_172 (bg_dX6_bridge_82 7 172 rfl)
theorem bg_dX6_bridgeOf_0 : bysAt cX6_bridgeOf 0 [42, 27, 182, 0, 112, 153, 0, 13, 28, 3, 16, 9, 184, 0, 66, 154, 0, 10, 42, 16, 254, 182, 0, 70, 172, 42] := bysAt_of (by decide +kernel)
theorem dX6_bridgeOf_0 : decode cX6_bridgeOf 0 = .ok (.aload_n 0, 1) := o_42 (bg_dX6_bridgeOf_0 0 42 rfl)
theorem dX6_bridgeOf_1 : decode cX6_bridgeOf 1 = .ok (.iload_n 1, 1) := o_27 (bg_dX6_bridgeOf_0 1 27 rfl)
theorem dX6_bridgeOf_2 : decode cX6_bridgeOf 2 = .ok (.invokevirtual 112, 3) := o_182 (bg_dX6_bridgeOf_0 2 182 rfl) (bg_dX6_bridgeOf_0 3 0 rfl) (bg_dX6_bridgeOf_0 4 112 rfl)
theorem dX6_bridgeOf_5 : decode cX6_bridgeOf 5 = .ok (.ifCond .eq 13, 3) := o_153 (bg_dX6_bridgeOf_0 5 153 rfl) (bg_dX6_bridgeOf_0 6 0 rfl) (bg_dX6_bridgeOf_0 7 13 rfl) (by decide +kernel)
theorem dX6_bridgeOf_8 : decode cX6_bridgeOf 8 = .ok (.iload_n 2, 1) := o_28 (bg_dX6_bridgeOf_0 8 28 rfl)
theorem dX6_bridgeOf_9 : decode cX6_bridgeOf 9 = .ok (.iconst 0, 1) := o_3 (bg_dX6_bridgeOf_0 9 3 rfl)
theorem dX6_bridgeOf_10 : decode cX6_bridgeOf 10 = .ok (.bipush 9, 2) := o_16 (bg_dX6_bridgeOf_0 10 16 rfl) (bg_dX6_bridgeOf_0 11 9 rfl) (by decide +kernel)
theorem dX6_bridgeOf_12 : decode cX6_bridgeOf 12 = .ok (.invokestatic 66, 3) := o_184 (bg_dX6_bridgeOf_0 12 184 rfl) (bg_dX6_bridgeOf_0 13 0 rfl) (bg_dX6_bridgeOf_0 14 66 rfl)
theorem dX6_bridgeOf_15 : decode cX6_bridgeOf 15 = .ok (.ifCond .ne 10, 3) := o_154 (bg_dX6_bridgeOf_0 15 154 rfl) (bg_dX6_bridgeOf_0 16 0 rfl) (bg_dX6_bridgeOf_0 17 10 rfl) (by decide +kernel)
theorem dX6_bridgeOf_18 : decode cX6_bridgeOf 18 = .ok (.aload_n 0, 1) := o_42 (bg_dX6_bridgeOf_0 18 42 rfl)
theorem dX6_bridgeOf_19 : decode cX6_bridgeOf 19 = .ok (.bipush (-2), 2) := o_16 (bg_dX6_bridgeOf_0 19 16 rfl) (bg_dX6_bridgeOf_0 20 254 rfl) (by decide +kernel)
theorem dX6_bridgeOf_21 : decode cX6_bridgeOf 21 = .ok (.invokevirtual 70, 3) := o_182 (bg_dX6_bridgeOf_0 21 182 rfl) (bg_dX6_bridgeOf_0 22 0 rfl) (bg_dX6_bridgeOf_0 23 70 rfl)
theorem dX6_bridgeOf_24 : decode cX6_bridgeOf 24 = .ok (.ireturn, 1) := o_172 (bg_dX6_bridgeOf_0 24 172 rfl)
theorem dX6_bridgeOf_25 : decode cX6_bridgeOf 25 = .ok (.aload_n 0, 1) := o_42 (bg_dX6_bridgeOf_0 25 42 rfl)
theorem bg_dX6_bridgeOf_26 : bysAt cX6_bridgeOf 26 [180, 0, 10, 27, 28, 182, 0, 159, 172] := bysAt_of (by decide +kernel)
theorem dX6_bridgeOf_26 : decode cX6_bridgeOf 26 = .ok (.getfield 10, 3) := o_180 (bg_dX6_bridgeOf_26 0 180 rfl) (bg_dX6_bridgeOf_26 1 0 rfl) (bg_dX6_bridgeOf_26 2 10 rfl)
theorem dX6_bridgeOf_29 : decode cX6_bridgeOf 29 = .ok (.iload_n 1, 1) := o_27 (bg_dX6_bridgeOf_26 3 27 rfl)
theorem dX6_bridgeOf_30 : decode cX6_bridgeOf 30 = .ok (.iload_n 2, 1) := o_28 (bg_dX6_bridgeOf_26 4 28 rfl)
theorem dX6_bridgeOf_31 : decode cX6_bridgeOf 31 = .ok (.invokevirtual 159, 3) := o_182 (bg_dX6_bridgeOf_26 5 182 rfl) (bg_dX6_bridgeOf_26 6 0 rfl) (bg_dX6_bridgeOf_26 7 159 rfl)
theorem dX6_bridgeOf_34 : decode cX6_bridgeOf 34 = .ok (.ireturn, 1) := o_172 (bg_dX6_bridgeOf_26 8 172 rfl)
theorem bg_dX6_copy_0 : bysAt cX6_copy 0 [27, 184, 0, 62, 153, 0, 10, 28, 184, 0, 62, 154, 0, 10, 42, 16, 254, 182, 0, 70, 172, 42, 180, 0, 35, 27, 182, 0, 88] := bysAt_of (by decide +kernel)
theorem dX6_copy_0 : decode cX6_copy 0 = .ok (.iload_n 1, 1) := o_27 (bg_dX6_copy_0 0 27 rfl)
theorem dX6_copy_1 : decode cX6_copy 1 = .ok (.invokestatic 62, 3) := o_184 (bg_dX6_copy_0 1 184 rfl) (bg_dX6_copy_0 2 0 rfl) (bg_dX6_copy_0 3 62 rfl)
theorem dX6_copy_4 : decode cX6_copy 4 = .ok (.ifCond .eq 10, 3) := o_153 (bg_dX6_copy_0 4 153 rfl) (bg_dX6_copy_0 5 0 rfl) (bg_dX6_copy_0 6 10 rfl) (by decide +kernel)
theorem dX6_copy_7 : decode cX6_copy 7 = .ok (.iload_n 2, 1) := o_28 (bg_dX6_copy_0 7 28 rfl)
theorem dX6_copy_8 : decode cX6_copy 8 = .ok (.invokestatic 62, 3) := o_184 (bg_dX6_copy_0 8 184 rfl) (bg_dX6_copy_0 9 0 rfl) (bg_dX6_copy_0 10 62 rfl)
theorem dX6_copy_11 : decode cX6_copy 11 = .ok (.ifCond .ne 10, 3) := o_154 (bg_dX6_copy_0 11 154 rfl) (bg_dX6_copy_0 12 0 rfl) (bg_dX6_copy_0 13 10 rfl) (by decide +kernel)
theorem dX6_copy_14 : decode cX6_copy 14 = .ok (.aload_n 0, 1) := o_42 (bg_dX6_copy_0 14 42 rfl)
theorem dX6_copy_15 : decode cX6_copy 15 = .ok (.bipush (-2), 2) := o_16 (bg_dX6_copy_0 15 16 rfl) (bg_dX6_copy_0 16 254 rfl) (by decide +kernel)
theorem dX6_copy_17 : decode cX6_copy 17 = .ok (.invokevirtual 70, 3) := o_182 (bg_dX6_copy_0 17 182 rfl) (bg_dX6_copy_0 18 0 rfl) (bg_dX6_copy_0 19 70 rfl)
theorem dX6_copy_20 : decode cX6_copy 20 = .ok (.ireturn, 1) := o_172 (bg_dX6_copy_0 20 172 rfl)
theorem dX6_copy_21 : decode cX6_copy 21 = .ok (.aload_n 0, 1) := o_42 (bg_dX6_copy_0 21 42 rfl)
theorem dX6_copy_22 : decode cX6_copy 22 = .ok (.getfield 35, 3) := o_180 (bg_dX6_copy_0 22 180 rfl) (bg_dX6_copy_0 23 0 rfl) (bg_dX6_copy_0 24 35 rfl)
theorem dX6_copy_25 : decode cX6_copy 25 = .ok (.iload_n 1, 1) := o_27 (bg_dX6_copy_0 25 27 rfl)
theorem dX6_copy_26 : decode cX6_copy 26 = .ok (.invokevirtual 88, 3) := o_182 (bg_dX6_copy_0 26 182 rfl) (bg_dX6_copy_0 27 0 rfl) (bg_dX6_copy_0 28 88 rfl)
theorem bg_dX6_copy_29 : bysAt cX6_copy 29 [154, 0, 26, 42, 180, 0, 35, 28, 182, 0, 88, 154, 0, 15, 42, 180, 0, 35, 27, 28, 182, 0, 91, 153, 0, 10, 42, 16, 253] := bysAt_of (by decide +kernel)
theorem dX6_copy_29 : decode cX6_copy 29 = .ok (.ifCond .ne 26, 3) := o_154 (bg_dX6_copy_29 0 154 rfl) (bg_dX6_copy_29 1 0 rfl) (bg_dX6_copy_29 2 26 rfl) (by decide +kernel)
theorem dX6_copy_32 : decode cX6_copy 32 = .ok (.aload_n 0, 1) := o_42 (bg_dX6_copy_29 3 42 rfl)
theorem dX6_copy_33 : decode cX6_copy 33 = .ok (.getfield 35, 3) := o_180 (bg_dX6_copy_29 4 180 rfl) (bg_dX6_copy_29 5 0 rfl) (bg_dX6_copy_29 6 35 rfl)
theorem dX6_copy_36 : decode cX6_copy 36 = .ok (.iload_n 2, 1) := o_28 (bg_dX6_copy_29 7 28 rfl)
theorem dX6_copy_37 : decode cX6_copy 37 = .ok (.invokevirtual 88, 3) := o_182 (bg_dX6_copy_29 8 182 rfl) (bg_dX6_copy_29 9 0 rfl) (bg_dX6_copy_29 10 88 rfl)
theorem dX6_copy_40 : decode cX6_copy 40 = .ok (.ifCond .ne 15, 3) := o_154 (bg_dX6_copy_29 11 154 rfl) (bg_dX6_copy_29 12 0 rfl) (bg_dX6_copy_29 13 15 rfl) (by decide +kernel)
theorem dX6_copy_43 : decode cX6_copy 43 = .ok (.aload_n 0, 1) := o_42 (bg_dX6_copy_29 14 42 rfl)
theorem dX6_copy_44 : decode cX6_copy 44 = .ok (.getfield 35, 3) := o_180 (bg_dX6_copy_29 15 180 rfl) (bg_dX6_copy_29 16 0 rfl) (bg_dX6_copy_29 17 35 rfl)
theorem dX6_copy_47 : decode cX6_copy 47 = .ok (.iload_n 1, 1) := o_27 (bg_dX6_copy_29 18 27 rfl)
theorem dX6_copy_48 : decode cX6_copy 48 = .ok (.iload_n 2, 1) := o_28 (bg_dX6_copy_29 19 28 rfl)
theorem dX6_copy_49 : decode cX6_copy 49 = .ok (.invokevirtual 91, 3) := o_182 (bg_dX6_copy_29 20 182 rfl) (bg_dX6_copy_29 21 0 rfl) (bg_dX6_copy_29 22 91 rfl)
theorem dX6_copy_52 : decode cX6_copy 52 = .ok (.ifCond .eq 10, 3) := o_153 (bg_dX6_copy_29 23 153 rfl) (bg_dX6_copy_29 24 0 rfl) (bg_dX6_copy_29 25 10 rfl) (by decide +kernel)
theorem dX6_copy_55 : decode cX6_copy 55 = .ok (.aload_n 0, 1) := o_42 (bg_dX6_copy_29 26 42 rfl)
theorem dX6_copy_56 : decode cX6_copy 56 = .ok (.bipush (-3), 2) := o_16 (bg_dX6_copy_29 27 16 rfl) (bg_dX6_copy_29 28 253 rfl) (by decide +kernel)
theorem bg_dX6_copy_58 : bysAt cX6_copy 58 [182, 0, 70, 172, 42, 180, 0, 35, 27, 182, 0, 95, 154, 0, 14, 42, 180, 0, 35, 28, 182, 0, 95, 153, 0, 10, 42, 16, 252] := bysAt_of (by decide +kernel)
theorem dX6_copy_58 : decode cX6_copy 58 = .ok (.invokevirtual 70, 3) := o_182 (bg_dX6_copy_58 0 182 rfl) (bg_dX6_copy_58 1 0 rfl) (bg_dX6_copy_58 2 70 rfl)
theorem dX6_copy_61 : decode cX6_copy 61 = .ok (.ireturn, 1) := o_172 (bg_dX6_copy_58 3 172 rfl)
theorem dX6_copy_62 : decode cX6_copy 62 = .ok (.aload_n 0, 1) := o_42 (bg_dX6_copy_58 4 42 rfl)
theorem dX6_copy_63 : decode cX6_copy 63 = .ok (.getfield 35, 3) := o_180 (bg_dX6_copy_58 5 180 rfl) (bg_dX6_copy_58 6 0 rfl) (bg_dX6_copy_58 7 35 rfl)
theorem dX6_copy_66 : decode cX6_copy 66 = .ok (.iload_n 1, 1) := o_27 (bg_dX6_copy_58 8 27 rfl)
theorem dX6_copy_67 : decode cX6_copy 67 = .ok (.invokevirtual 95, 3) := o_182 (bg_dX6_copy_58 9 182 rfl) (bg_dX6_copy_58 10 0 rfl) (bg_dX6_copy_58 11 95 rfl)
theorem dX6_copy_70 : decode cX6_copy 70 = .ok (.ifCond .ne 14, 3) := o_154 (bg_dX6_copy_58 12 154 rfl) (bg_dX6_copy_58 13 0 rfl) (bg_dX6_copy_58 14 14 rfl) (by decide +kernel)
theorem dX6_copy_73 : decode cX6_copy 73 = .ok (.aload_n 0, 1) := o_42 (bg_dX6_copy_58 15 42 rfl)
theorem dX6_copy_74 : decode cX6_copy 74 = .ok (.getfield 35, 3) := o_180 (bg_dX6_copy_58 16 180 rfl) (bg_dX6_copy_58 17 0 rfl) (bg_dX6_copy_58 18 35 rfl)
theorem dX6_copy_77 : decode cX6_copy 77 = .ok (.iload_n 2, 1) := o_28 (bg_dX6_copy_58 19 28 rfl)
theorem dX6_copy_78 : decode cX6_copy 78 = .ok (.invokevirtual 95, 3) := o_182 (bg_dX6_copy_58 20 182 rfl) (bg_dX6_copy_58 21 0 rfl) (bg_dX6_copy_58 22 95 rfl)
theorem dX6_copy_81 : decode cX6_copy 81 = .ok (.ifCond .eq 10, 3) := o_153 (bg_dX6_copy_58 23 153 rfl) (bg_dX6_copy_58 24 0 rfl) (bg_dX6_copy_58 25 10 rfl) (by decide +kernel)
theorem dX6_copy_84 : decode cX6_copy 84 = .ok (.aload_n 0, 1) := o_42 (bg_dX6_copy_58 26 42 rfl)
theorem dX6_copy_85 : decode cX6_copy 85 = .ok (.bipush (-4), 2) := o_16 (bg_dX6_copy_58 27 16 rfl) (bg_dX6_copy_58 28 252 rfl) (by decide +kernel)
theorem bg_dX6_copy_87 : bysAt cX6_copy 87 [182, 0, 70, 172, 21, 5, 3, 16, 40, 184, 0, 66, 153, 0, 44, 29, 3, 42, 180, 0, 35, 180, 0, 81, 27, 46] := bysAt_of (by decide +kernel)
theorem dX6_copy_87 : decode cX6_copy 87 = .ok (.invokevirtual 70, 3) := o_182 (bg_dX6_copy_87 0 182 rfl) (bg_dX6_copy_87 1 0 rfl) (bg_dX6_copy_87 2 70 rfl)
theorem dX6_copy_90 : decode cX6_copy 90 = .ok (.ireturn, 1) := o_172 (bg_dX6_copy_87 3 172 rfl)
theorem dX6_copy_91 : decode cX6_copy 91 = .ok (.iload 5, 2) := o_21 (bg_dX6_copy_87 4 21 rfl) (bg_dX6_copy_87 5 5 rfl)
theorem dX6_copy_93 : decode cX6_copy 93 = .ok (.iconst 0, 1) := o_3 (bg_dX6_copy_87 6 3 rfl)
theorem dX6_copy_94 : decode cX6_copy 94 = .ok (.bipush 40, 2) := o_16 (bg_dX6_copy_87 7 16 rfl) (bg_dX6_copy_87 8 40 rfl) (by decide +kernel)
theorem dX6_copy_96 : decode cX6_copy 96 = .ok (.invokestatic 66, 3) := o_184 (bg_dX6_copy_87 9 184 rfl) (bg_dX6_copy_87 10 0 rfl) (bg_dX6_copy_87 11 66 rfl)
theorem dX6_copy_99 : decode cX6_copy 99 = .ok (.ifCond .eq 44, 3) := o_153 (bg_dX6_copy_87 12 153 rfl) (bg_dX6_copy_87 13 0 rfl) (bg_dX6_copy_87 14 44 rfl) (by decide +kernel)
theorem dX6_copy_102 : decode cX6_copy 102 = .ok (.iload_n 3, 1) := o_29 (bg_dX6_copy_87 15 29 rfl)
theorem dX6_copy_103 : decode cX6_copy 103 = .ok (.iconst 0, 1) := o_3 (bg_dX6_copy_87 16 3 rfl)
theorem dX6_copy_104 : decode cX6_copy 104 = .ok (.aload_n 0, 1) := o_42 (bg_dX6_copy_87 17 42 rfl)
theorem dX6_copy_105 : decode cX6_copy 105 = .ok (.getfield 35, 3) := o_180 (bg_dX6_copy_87 18 180 rfl) (bg_dX6_copy_87 19 0 rfl) (bg_dX6_copy_87 20 35 rfl)
theorem dX6_copy_108 : decode cX6_copy 108 = .ok (.getfield 81, 3) := o_180 (bg_dX6_copy_87 21 180 rfl) (bg_dX6_copy_87 22 0 rfl) (bg_dX6_copy_87 23 81 rfl)
theorem dX6_copy_111 : decode cX6_copy 111 = .ok (.iload_n 1, 1) := o_27 (bg_dX6_copy_87 24 27 rfl)
theorem dX6_copy_112 : decode cX6_copy 112 = .ok (.iaload, 1) := o_46 (bg_dX6_copy_87 25 46 rfl)
theorem bg_dX6_copy_113 : bysAt cX6_copy 113 [21, 5, 100, 184, 0, 66, 153, 0, 24, 21, 4, 3, 42, 180, 0, 35, 180, 0, 81, 28, 46, 21, 5, 100, 184, 0, 66] := bysAt_of (by decide +kernel)
theorem dX6_copy_113 : decode cX6_copy 113 = .ok (.iload 5, 2) := o_21 (bg_dX6_copy_113 0 21 rfl) (bg_dX6_copy_113 1 5 rfl)
theorem dX6_copy_115 : decode cX6_copy 115 = .ok (.isub, 1) := o_100 (bg_dX6_copy_113 2 100 rfl)
theorem dX6_copy_116 : decode cX6_copy 116 = .ok (.invokestatic 66, 3) := o_184 (bg_dX6_copy_113 3 184 rfl) (bg_dX6_copy_113 4 0 rfl) (bg_dX6_copy_113 5 66 rfl)
theorem dX6_copy_119 : decode cX6_copy 119 = .ok (.ifCond .eq 24, 3) := o_153 (bg_dX6_copy_113 6 153 rfl) (bg_dX6_copy_113 7 0 rfl) (bg_dX6_copy_113 8 24 rfl) (by decide +kernel)
theorem dX6_copy_122 : decode cX6_copy 122 = .ok (.iload 4, 2) := o_21 (bg_dX6_copy_113 9 21 rfl) (bg_dX6_copy_113 10 4 rfl)
theorem dX6_copy_124 : decode cX6_copy 124 = .ok (.iconst 0, 1) := o_3 (bg_dX6_copy_113 11 3 rfl)
theorem dX6_copy_125 : decode cX6_copy 125 = .ok (.aload_n 0, 1) := o_42 (bg_dX6_copy_113 12 42 rfl)
theorem dX6_copy_126 : decode cX6_copy 126 = .ok (.getfield 35, 3) := o_180 (bg_dX6_copy_113 13 180 rfl) (bg_dX6_copy_113 14 0 rfl) (bg_dX6_copy_113 15 35 rfl)
theorem dX6_copy_129 : decode cX6_copy 129 = .ok (.getfield 81, 3) := o_180 (bg_dX6_copy_113 16 180 rfl) (bg_dX6_copy_113 17 0 rfl) (bg_dX6_copy_113 18 81 rfl)
theorem dX6_copy_132 : decode cX6_copy 132 = .ok (.iload_n 2, 1) := o_28 (bg_dX6_copy_113 19 28 rfl)
theorem dX6_copy_133 : decode cX6_copy 133 = .ok (.iaload, 1) := o_46 (bg_dX6_copy_113 20 46 rfl)
theorem dX6_copy_134 : decode cX6_copy 134 = .ok (.iload 5, 2) := o_21 (bg_dX6_copy_113 21 21 rfl) (bg_dX6_copy_113 22 5 rfl)
theorem dX6_copy_136 : decode cX6_copy 136 = .ok (.isub, 1) := o_100 (bg_dX6_copy_113 23 100 rfl)
theorem dX6_copy_137 : decode cX6_copy 137 = .ok (.invokestatic 66, 3) := o_184 (bg_dX6_copy_113 24 184 rfl) (bg_dX6_copy_113 25 0 rfl) (bg_dX6_copy_113 26 66 rfl)
theorem bg_dX6_copy_140 : bysAt cX6_copy 140 [154, 0, 10, 42, 16, 254, 182, 0, 70, 172, 42, 180, 0, 35, 27, 28, 29, 21, 4, 21, 5, 182, 0, 98, 21, 5] := bysAt_of (by decide +kernel)
theorem dX6_copy_140 : decode cX6_copy 140 = .ok (.ifCond .ne 10, 3) := o_154 (bg_dX6_copy_140 0 154 rfl) (bg_dX6_copy_140 1 0 rfl) (bg_dX6_copy_140 2 10 rfl) (by decide +kernel)
theorem dX6_copy_143 : decode cX6_copy 143 = .ok (.aload_n 0, 1) := o_42 (bg_dX6_copy_140 3 42 rfl)
theorem dX6_copy_144 : decode cX6_copy 144 = .ok (.bipush (-2), 2) := o_16 (bg_dX6_copy_140 4 16 rfl) (bg_dX6_copy_140 5 254 rfl) (by decide +kernel)
theorem dX6_copy_146 : decode cX6_copy 146 = .ok (.invokevirtual 70, 3) := o_182 (bg_dX6_copy_140 6 182 rfl) (bg_dX6_copy_140 7 0 rfl) (bg_dX6_copy_140 8 70 rfl)
theorem dX6_copy_149 : decode cX6_copy 149 = .ok (.ireturn, 1) := o_172 (bg_dX6_copy_140 9 172 rfl)
theorem dX6_copy_150 : decode cX6_copy 150 = .ok (.aload_n 0, 1) := o_42 (bg_dX6_copy_140 10 42 rfl)
theorem dX6_copy_151 : decode cX6_copy 151 = .ok (.getfield 35, 3) := o_180 (bg_dX6_copy_140 11 180 rfl) (bg_dX6_copy_140 12 0 rfl) (bg_dX6_copy_140 13 35 rfl)
theorem dX6_copy_154 : decode cX6_copy 154 = .ok (.iload_n 1, 1) := o_27 (bg_dX6_copy_140 14 27 rfl)
theorem dX6_copy_155 : decode cX6_copy 155 = .ok (.iload_n 2, 1) := o_28 (bg_dX6_copy_140 15 28 rfl)
theorem dX6_copy_156 : decode cX6_copy 156 = .ok (.iload_n 3, 1) := o_29 (bg_dX6_copy_140 16 29 rfl)
theorem dX6_copy_157 : decode cX6_copy 157 = .ok (.iload 4, 2) := o_21 (bg_dX6_copy_140 17 21 rfl) (bg_dX6_copy_140 18 4 rfl)
theorem dX6_copy_159 : decode cX6_copy 159 = .ok (.iload 5, 2) := o_21 (bg_dX6_copy_140 19 21 rfl) (bg_dX6_copy_140 20 5 rfl)
theorem dX6_copy_161 : decode cX6_copy 161 = .ok (.invokevirtual 98, 3) := o_182 (bg_dX6_copy_140 21 182 rfl) (bg_dX6_copy_140 22 0 rfl) (bg_dX6_copy_140 23 98 rfl)
theorem dX6_copy_164 : decode cX6_copy 164 = .ok (.iload 5, 2) := o_21 (bg_dX6_copy_140 24 21 rfl) (bg_dX6_copy_140 25 5 rfl)
theorem bg_dX6_copy_166 : bysAt cX6_copy 166 [172] := bysAt_of (by decide +kernel)
theorem dX6_copy_166 : decode cX6_copy 166 = .ok (.ireturn, 1) := o_172 (bg_dX6_copy_166 0 172 rfl)
theorem bg_dX6_element_0 : bysAt cX6_element 0 [27, 184, 0, 62, 153, 0, 14, 42, 180, 0, 35, 27, 182, 0, 102, 154, 0, 5, 9, 173, 42, 180, 0, 35, 27, 28] := bysAt_of (by decide +kernel)
theorem dX6_element_0 : decode cX6_element 0 = .ok (.iload_n 1, 1) := o_27 (bg_dX6_element_0 0 27 rfl)
theorem dX6_element_1 : decode cX6_element 1 = .ok (.invokestatic 62, 3) := o_184 (bg_dX6_element_0 1 184 rfl) (bg_dX6_element_0 2 0 rfl) (bg_dX6_element_0 3 62 rfl)
theorem dX6_element_4 : decode cX6_element 4 = .ok (.ifCond .eq 14, 3) := o_153 (bg_dX6_element_0 4 153 rfl) (bg_dX6_element_0 5 0 rfl) (bg_dX6_element_0 6 14 rfl) (by decide +kernel)
theorem dX6_element_7 : decode cX6_element 7 = .ok (.aload_n 0, 1) := o_42 (bg_dX6_element_0 7 42 rfl)
theorem dX6_element_8 : decode cX6_element 8 = .ok (.getfield 35, 3) := o_180 (bg_dX6_element_0 8 180 rfl) (bg_dX6_element_0 9 0 rfl) (bg_dX6_element_0 10 35 rfl)
theorem dX6_element_11 : decode cX6_element 11 = .ok (.iload_n 1, 1) := o_27 (bg_dX6_element_0 11 27 rfl)
theorem dX6_element_12 : decode cX6_element 12 = .ok (.invokevirtual 102, 3) := o_182 (bg_dX6_element_0 12 182 rfl) (bg_dX6_element_0 13 0 rfl) (bg_dX6_element_0 14 102 rfl)
theorem dX6_element_15 : decode cX6_element 15 = .ok (.ifCond .ne 5, 3) := o_154 (bg_dX6_element_0 15 154 rfl) (bg_dX6_element_0 16 0 rfl) (bg_dX6_element_0 17 5 rfl) (by decide +kernel)
theorem dX6_element_18 : decode cX6_element 18 = .ok (.lconst 0, 1) := o_9 (bg_dX6_element_0 18 9 rfl)
theorem dX6_element_19 : decode cX6_element 19 = .ok (.lreturn, 1) := o_173 (bg_dX6_element_0 19 173 rfl)
theorem dX6_element_20 : decode cX6_element 20 = .ok (.aload_n 0, 1) := o_42 (bg_dX6_element_0 20 42 rfl)
theorem dX6_element_21 : decode cX6_element 21 = .ok (.getfield 35, 3) := o_180 (bg_dX6_element_0 21 180 rfl) (bg_dX6_element_0 22 0 rfl) (bg_dX6_element_0 23 35 rfl)
theorem dX6_element_24 : decode cX6_element 24 = .ok (.iload_n 1, 1) := o_27 (bg_dX6_element_0 24 27 rfl)
theorem dX6_element_25 : decode cX6_element 25 = .ok (.iload_n 2, 1) := o_28 (bg_dX6_element_0 25 28 rfl)
theorem bg_dX6_element_26 : bysAt cX6_element 26 [182, 0, 105, 173] := bysAt_of (by decide +kernel)
theorem dX6_element_26 : decode cX6_element 26 = .ok (.invokevirtual 105, 3) := o_182 (bg_dX6_element_26 0 182 rfl) (bg_dX6_element_26 1 0 rfl) (bg_dX6_element_26 2 105 rfl)
theorem dX6_element_29 : decode cX6_element 29 = .ok (.lreturn, 1) := o_173 (bg_dX6_element_26 3 173 rfl)
theorem bg_dX6_goes_0 : bysAt cX6_goes 0 [42, 27, 28, 182, 0, 200, 153, 0, 21, 42, 29, 182, 0, 136, 153, 0, 13, 21, 4, 3, 7, 184, 0, 66, 154, 0, 10] := bysAt_of (by decide +kernel)
theorem dX6_goes_0 : decode cX6_goes 0 = .ok (.aload_n 0, 1) := o_42 (bg_dX6_goes_0 0 42 rfl)
theorem dX6_goes_1 : decode cX6_goes 1 = .ok (.iload_n 1, 1) := o_27 (bg_dX6_goes_0 1 27 rfl)
theorem dX6_goes_2 : decode cX6_goes 2 = .ok (.iload_n 2, 1) := o_28 (bg_dX6_goes_0 2 28 rfl)
theorem dX6_goes_3 : decode cX6_goes 3 = .ok (.invokevirtual 200, 3) := o_182 (bg_dX6_goes_0 3 182 rfl) (bg_dX6_goes_0 4 0 rfl) (bg_dX6_goes_0 5 200 rfl)
theorem dX6_goes_6 : decode cX6_goes 6 = .ok (.ifCond .eq 21, 3) := o_153 (bg_dX6_goes_0 6 153 rfl) (bg_dX6_goes_0 7 0 rfl) (bg_dX6_goes_0 8 21 rfl) (by decide +kernel)
theorem dX6_goes_9 : decode cX6_goes 9 = .ok (.aload_n 0, 1) := o_42 (bg_dX6_goes_0 9 42 rfl)
theorem dX6_goes_10 : decode cX6_goes 10 = .ok (.iload_n 3, 1) := o_29 (bg_dX6_goes_0 10 29 rfl)
theorem dX6_goes_11 : decode cX6_goes 11 = .ok (.invokevirtual 136, 3) := o_182 (bg_dX6_goes_0 11 182 rfl) (bg_dX6_goes_0 12 0 rfl) (bg_dX6_goes_0 13 136 rfl)
theorem dX6_goes_14 : decode cX6_goes 14 = .ok (.ifCond .eq 13, 3) := o_153 (bg_dX6_goes_0 14 153 rfl) (bg_dX6_goes_0 15 0 rfl) (bg_dX6_goes_0 16 13 rfl) (by decide +kernel)
theorem dX6_goes_17 : decode cX6_goes 17 = .ok (.iload 4, 2) := o_21 (bg_dX6_goes_0 17 21 rfl) (bg_dX6_goes_0 18 4 rfl)
theorem dX6_goes_19 : decode cX6_goes 19 = .ok (.iconst 0, 1) := o_3 (bg_dX6_goes_0 19 3 rfl)
theorem dX6_goes_20 : decode cX6_goes 20 = .ok (.iconst 4, 1) := o_7 (bg_dX6_goes_0 20 7 rfl)
theorem dX6_goes_21 : decode cX6_goes 21 = .ok (.invokestatic 66, 3) := o_184 (bg_dX6_goes_0 21 184 rfl) (bg_dX6_goes_0 22 0 rfl) (bg_dX6_goes_0 23 66 rfl)
theorem dX6_goes_24 : decode cX6_goes 24 = .ok (.ifCond .ne 10, 3) := o_154 (bg_dX6_goes_0 24 154 rfl) (bg_dX6_goes_0 25 0 rfl) (bg_dX6_goes_0 26 10 rfl) (by decide +kernel)
theorem bg_dX6_goes_27 : bysAt cX6_goes 27 [42, 16, 254, 182, 0, 70, 172, 42, 180, 0, 28, 27, 28, 182, 0, 223, 21, 4, 154, 0, 22, 42, 180, 0, 28, 180, 0, 226] := bysAt_of (by decide +kernel)
theorem dX6_goes_27 : decode cX6_goes 27 = .ok (.aload_n 0, 1) := o_42 (bg_dX6_goes_27 0 42 rfl)
theorem dX6_goes_28 : decode cX6_goes 28 = .ok (.bipush (-2), 2) := o_16 (bg_dX6_goes_27 1 16 rfl) (bg_dX6_goes_27 2 254 rfl) (by decide +kernel)
theorem dX6_goes_30 : decode cX6_goes 30 = .ok (.invokevirtual 70, 3) := o_182 (bg_dX6_goes_27 3 182 rfl) (bg_dX6_goes_27 4 0 rfl) (bg_dX6_goes_27 5 70 rfl)
theorem dX6_goes_33 : decode cX6_goes 33 = .ok (.ireturn, 1) := o_172 (bg_dX6_goes_27 6 172 rfl)
theorem dX6_goes_34 : decode cX6_goes 34 = .ok (.aload_n 0, 1) := o_42 (bg_dX6_goes_27 7 42 rfl)
theorem dX6_goes_35 : decode cX6_goes 35 = .ok (.getfield 28, 3) := o_180 (bg_dX6_goes_27 8 180 rfl) (bg_dX6_goes_27 9 0 rfl) (bg_dX6_goes_27 10 28 rfl)
theorem dX6_goes_38 : decode cX6_goes 38 = .ok (.iload_n 1, 1) := o_27 (bg_dX6_goes_27 11 27 rfl)
theorem dX6_goes_39 : decode cX6_goes 39 = .ok (.iload_n 2, 1) := o_28 (bg_dX6_goes_27 12 28 rfl)
theorem dX6_goes_40 : decode cX6_goes 40 = .ok (.invokevirtual 223, 3) := o_182 (bg_dX6_goes_27 13 182 rfl) (bg_dX6_goes_27 14 0 rfl) (bg_dX6_goes_27 15 223 rfl)
theorem dX6_goes_43 : decode cX6_goes 43 = .ok (.iload 4, 2) := o_21 (bg_dX6_goes_27 16 21 rfl) (bg_dX6_goes_27 17 4 rfl)
theorem dX6_goes_45 : decode cX6_goes 45 = .ok (.ifCond .ne 22, 3) := o_154 (bg_dX6_goes_27 18 154 rfl) (bg_dX6_goes_27 19 0 rfl) (bg_dX6_goes_27 20 22 rfl) (by decide +kernel)
theorem dX6_goes_48 : decode cX6_goes 48 = .ok (.aload_n 0, 1) := o_42 (bg_dX6_goes_27 21 42 rfl)
theorem dX6_goes_49 : decode cX6_goes 49 = .ok (.getfield 28, 3) := o_180 (bg_dX6_goes_27 22 180 rfl) (bg_dX6_goes_27 23 0 rfl) (bg_dX6_goes_27 24 28 rfl)
theorem dX6_goes_52 : decode cX6_goes 52 = .ok (.getfield 226, 3) := o_180 (bg_dX6_goes_27 25 180 rfl) (bg_dX6_goes_27 26 0 rfl) (bg_dX6_goes_27 27 226 rfl)
theorem bg_dX6_goes_55 : bysAt cX6_goes 55 [29, 46, 2, 160, 0, 7, 3, 167, 0, 4, 4, 172, 21, 4, 6, 160, 0, 12, 42, 180, 0, 28, 29] := bysAt_of (by decide +kernel)
theorem dX6_goes_55 : decode cX6_goes 55 = .ok (.iload_n 3, 1) := o_29 (bg_dX6_goes_55 0 29 rfl)
theorem dX6_goes_56 : decode cX6_goes 56 = .ok (.iaload, 1) := o_46 (bg_dX6_goes_55 1 46 rfl)
theorem dX6_goes_57 : decode cX6_goes 57 = .ok (.iconst (-1), 1) := o_2 (bg_dX6_goes_55 2 2 rfl)
theorem dX6_goes_58 : decode cX6_goes 58 = .ok (.if_icmp .ne 7, 3) := o_160 (bg_dX6_goes_55 3 160 rfl) (bg_dX6_goes_55 4 0 rfl) (bg_dX6_goes_55 5 7 rfl) (by decide +kernel)
theorem dX6_goes_61 : decode cX6_goes 61 = .ok (.iconst 0, 1) := o_3 (bg_dX6_goes_55 6 3 rfl)
theorem dX6_goes_62 : decode cX6_goes 62 = .ok (.goto 4, 3) := o_167 (bg_dX6_goes_55 7 167 rfl) (bg_dX6_goes_55 8 0 rfl) (bg_dX6_goes_55 9 4 rfl) (by decide +kernel)
theorem dX6_goes_65 : decode cX6_goes 65 = .ok (.iconst 1, 1) := o_4 (bg_dX6_goes_55 10 4 rfl)
theorem dX6_goes_66 : decode cX6_goes 66 = .ok (.ireturn, 1) := o_172 (bg_dX6_goes_55 11 172 rfl)
theorem dX6_goes_67 : decode cX6_goes 67 = .ok (.iload 4, 2) := o_21 (bg_dX6_goes_55 12 21 rfl) (bg_dX6_goes_55 13 4 rfl)
theorem dX6_goes_69 : decode cX6_goes 69 = .ok (.iconst 3, 1) := o_6 (bg_dX6_goes_55 14 6 rfl)
theorem dX6_goes_70 : decode cX6_goes 70 = .ok (.if_icmp .ne 12, 3) := o_160 (bg_dX6_goes_55 15 160 rfl) (bg_dX6_goes_55 16 0 rfl) (bg_dX6_goes_55 17 12 rfl) (by decide +kernel)
theorem dX6_goes_73 : decode cX6_goes 73 = .ok (.aload_n 0, 1) := o_42 (bg_dX6_goes_55 18 42 rfl)
theorem dX6_goes_74 : decode cX6_goes 74 = .ok (.getfield 28, 3) := o_180 (bg_dX6_goes_55 19 180 rfl) (bg_dX6_goes_55 20 0 rfl) (bg_dX6_goes_55 21 28 rfl)
theorem dX6_goes_77 : decode cX6_goes 77 = .ok (.iload_n 3, 1) := o_29 (bg_dX6_goes_55 22 29 rfl)
theorem bg_dX6_goes_78 : bysAt cX6_goes 78 [182, 0, 229, 172, 42, 180, 0, 28, 180, 0, 226, 29, 46, 2, 160, 0, 10, 42, 16, 251, 182, 0, 70, 172, 21, 4] := bysAt_of (by decide +kernel)
theorem dX6_goes_78 : decode cX6_goes 78 = .ok (.invokevirtual 229, 3) := o_182 (bg_dX6_goes_78 0 182 rfl) (bg_dX6_goes_78 1 0 rfl) (bg_dX6_goes_78 2 229 rfl)
theorem dX6_goes_81 : decode cX6_goes 81 = .ok (.ireturn, 1) := o_172 (bg_dX6_goes_78 3 172 rfl)
theorem dX6_goes_82 : decode cX6_goes 82 = .ok (.aload_n 0, 1) := o_42 (bg_dX6_goes_78 4 42 rfl)
theorem dX6_goes_83 : decode cX6_goes 83 = .ok (.getfield 28, 3) := o_180 (bg_dX6_goes_78 5 180 rfl) (bg_dX6_goes_78 6 0 rfl) (bg_dX6_goes_78 7 28 rfl)
theorem dX6_goes_86 : decode cX6_goes 86 = .ok (.getfield 226, 3) := o_180 (bg_dX6_goes_78 8 180 rfl) (bg_dX6_goes_78 9 0 rfl) (bg_dX6_goes_78 10 226 rfl)
theorem dX6_goes_89 : decode cX6_goes 89 = .ok (.iload_n 3, 1) := o_29 (bg_dX6_goes_78 11 29 rfl)
theorem dX6_goes_90 : decode cX6_goes 90 = .ok (.iaload, 1) := o_46 (bg_dX6_goes_78 12 46 rfl)
theorem dX6_goes_91 : decode cX6_goes 91 = .ok (.iconst (-1), 1) := o_2 (bg_dX6_goes_78 13 2 rfl)
theorem dX6_goes_92 : decode cX6_goes 92 = .ok (.if_icmp .ne 10, 3) := o_160 (bg_dX6_goes_78 14 160 rfl) (bg_dX6_goes_78 15 0 rfl) (bg_dX6_goes_78 16 10 rfl) (by decide +kernel)
theorem dX6_goes_95 : decode cX6_goes 95 = .ok (.aload_n 0, 1) := o_42 (bg_dX6_goes_78 17 42 rfl)
theorem dX6_goes_96 : decode cX6_goes 96 = .ok (.bipush (-5), 2) := o_16 (bg_dX6_goes_78 18 16 rfl) (bg_dX6_goes_78 19 251 rfl) (by decide +kernel)
theorem dX6_goes_98 : decode cX6_goes 98 = .ok (.invokevirtual 70, 3) := o_182 (bg_dX6_goes_78 20 182 rfl) (bg_dX6_goes_78 21 0 rfl) (bg_dX6_goes_78 22 70 rfl)
theorem dX6_goes_101 : decode cX6_goes 101 = .ok (.ireturn, 1) := o_172 (bg_dX6_goes_78 23 172 rfl)
theorem dX6_goes_102 : decode cX6_goes 102 = .ok (.iload 4, 2) := o_21 (bg_dX6_goes_78 24 21 rfl) (bg_dX6_goes_78 25 4 rfl)
theorem bg_dX6_goes_104 : bysAt cX6_goes 104 [4, 160, 0, 13, 42, 180, 0, 28, 29, 4, 182, 0, 232, 172, 21, 4, 5, 160, 0, 14, 42, 180, 0, 28, 29] := bysAt_of (by decide +kernel)
theorem dX6_goes_104 : decode cX6_goes 104 = .ok (.iconst 1, 1) := o_4 (bg_dX6_goes_104 0 4 rfl)
theorem dX6_goes_105 : decode cX6_goes 105 = .ok (.if_icmp .ne 13, 3) := o_160 (bg_dX6_goes_104 1 160 rfl) (bg_dX6_goes_104 2 0 rfl) (bg_dX6_goes_104 3 13 rfl) (by decide +kernel)
theorem dX6_goes_108 : decode cX6_goes 108 = .ok (.aload_n 0, 1) := o_42 (bg_dX6_goes_104 4 42 rfl)
theorem dX6_goes_109 : decode cX6_goes 109 = .ok (.getfield 28, 3) := o_180 (bg_dX6_goes_104 5 180 rfl) (bg_dX6_goes_104 6 0 rfl) (bg_dX6_goes_104 7 28 rfl)
theorem dX6_goes_112 : decode cX6_goes 112 = .ok (.iload_n 3, 1) := o_29 (bg_dX6_goes_104 8 29 rfl)
theorem dX6_goes_113 : decode cX6_goes 113 = .ok (.iconst 1, 1) := o_4 (bg_dX6_goes_104 9 4 rfl)
theorem dX6_goes_114 : decode cX6_goes 114 = .ok (.invokevirtual 232, 3) := o_182 (bg_dX6_goes_104 10 182 rfl) (bg_dX6_goes_104 11 0 rfl) (bg_dX6_goes_104 12 232 rfl)
theorem dX6_goes_117 : decode cX6_goes 117 = .ok (.ireturn, 1) := o_172 (bg_dX6_goes_104 13 172 rfl)
theorem dX6_goes_118 : decode cX6_goes 118 = .ok (.iload 4, 2) := o_21 (bg_dX6_goes_104 14 21 rfl) (bg_dX6_goes_104 15 4 rfl)
theorem dX6_goes_120 : decode cX6_goes 120 = .ok (.iconst 2, 1) := o_5 (bg_dX6_goes_104 16 5 rfl)
theorem dX6_goes_121 : decode cX6_goes 121 = .ok (.if_icmp .ne 14, 3) := o_160 (bg_dX6_goes_104 17 160 rfl) (bg_dX6_goes_104 18 0 rfl) (bg_dX6_goes_104 19 14 rfl) (by decide +kernel)
theorem dX6_goes_124 : decode cX6_goes 124 = .ok (.aload_n 0, 1) := o_42 (bg_dX6_goes_104 20 42 rfl)
theorem dX6_goes_125 : decode cX6_goes 125 = .ok (.getfield 28, 3) := o_180 (bg_dX6_goes_104 21 180 rfl) (bg_dX6_goes_104 22 0 rfl) (bg_dX6_goes_104 23 28 rfl)
theorem dX6_goes_128 : decode cX6_goes 128 = .ok (.iload_n 3, 1) := o_29 (bg_dX6_goes_104 24 29 rfl)
theorem bg_dX6_goes_129 : bysAt cX6_goes 129 [182, 0, 235, 167, 0, 12, 42, 180, 0, 28, 180, 0, 226, 29, 46, 172] := bysAt_of (by decide +kernel)
theorem dX6_goes_129 : decode cX6_goes 129 = .ok (.invokevirtual 235, 3) := o_182 (bg_dX6_goes_129 0 182 rfl) (bg_dX6_goes_129 1 0 rfl) (bg_dX6_goes_129 2 235 rfl)
theorem dX6_goes_132 : decode cX6_goes 132 = .ok (.goto 12, 3) := o_167 (bg_dX6_goes_129 3 167 rfl) (bg_dX6_goes_129 4 0 rfl) (bg_dX6_goes_129 5 12 rfl) (by decide +kernel)
theorem dX6_goes_135 : decode cX6_goes 135 = .ok (.aload_n 0, 1) := o_42 (bg_dX6_goes_129 6 42 rfl)
theorem dX6_goes_136 : decode cX6_goes 136 = .ok (.getfield 28, 3) := o_180 (bg_dX6_goes_129 7 180 rfl) (bg_dX6_goes_129 8 0 rfl) (bg_dX6_goes_129 9 28 rfl)
theorem dX6_goes_139 : decode cX6_goes 139 = .ok (.getfield 226, 3) := o_180 (bg_dX6_goes_129 10 180 rfl) (bg_dX6_goes_129 11 0 rfl) (bg_dX6_goes_129 12 226 rfl)
theorem dX6_goes_142 : decode cX6_goes 142 = .ok (.iload_n 3, 1) := o_29 (bg_dX6_goes_129 13 29 rfl)
theorem dX6_goes_143 : decode cX6_goes 143 = .ok (.iaload, 1) := o_46 (bg_dX6_goes_129 14 46 rfl)
theorem dX6_goes_144 : decode cX6_goes 144 = .ok (.ireturn, 1) := o_172 (bg_dX6_goes_129 15 172 rfl)
theorem bg_dX6_holds_0 : bysAt cX6_holds 0 [27, 184, 0, 62, 153, 0, 15, 42, 180, 0, 35, 180, 0, 109, 27, 46, 167, 0, 4, 2, 172] := bysAt_of (by decide +kernel)
theorem dX6_holds_0 : decode cX6_holds 0 = .ok (.iload_n 1, 1) := o_27 (bg_dX6_holds_0 0 27 rfl)
theorem dX6_holds_1 : decode cX6_holds 1 = .ok (.invokestatic 62, 3) := o_184 (bg_dX6_holds_0 1 184 rfl) (bg_dX6_holds_0 2 0 rfl) (bg_dX6_holds_0 3 62 rfl)
theorem dX6_holds_4 : decode cX6_holds 4 = .ok (.ifCond .eq 15, 3) := o_153 (bg_dX6_holds_0 4 153 rfl) (bg_dX6_holds_0 5 0 rfl) (bg_dX6_holds_0 6 15 rfl) (by decide +kernel)
theorem dX6_holds_7 : decode cX6_holds 7 = .ok (.aload_n 0, 1) := o_42 (bg_dX6_holds_0 7 42 rfl)
theorem dX6_holds_8 : decode cX6_holds 8 = .ok (.getfield 35, 3) := o_180 (bg_dX6_holds_0 8 180 rfl) (bg_dX6_holds_0 9 0 rfl) (bg_dX6_holds_0 10 35 rfl)
theorem dX6_holds_11 : decode cX6_holds 11 = .ok (.getfield 109, 3) := o_180 (bg_dX6_holds_0 11 180 rfl) (bg_dX6_holds_0 12 0 rfl) (bg_dX6_holds_0 13 109 rfl)
theorem dX6_holds_14 : decode cX6_holds 14 = .ok (.iload_n 1, 1) := o_27 (bg_dX6_holds_0 14 27 rfl)
theorem dX6_holds_15 : decode cX6_holds 15 = .ok (.iaload, 1) := o_46 (bg_dX6_holds_0 15 46 rfl)
theorem dX6_holds_16 : decode cX6_holds 16 = .ok (.goto 4, 3) := o_167 (bg_dX6_holds_0 16 167 rfl) (bg_dX6_holds_0 17 0 rfl) (bg_dX6_holds_0 18 4 rfl) (by decide +kernel)
theorem dX6_holds_19 : decode cX6_holds 19 = .ok (.iconst (-1), 1) := o_2 (bg_dX6_holds_0 19 2 rfl)
theorem dX6_holds_20 : decode cX6_holds 20 = .ok (.ireturn, 1) := o_172 (bg_dX6_holds_0 20 172 rfl)
theorem bg_dX6_length_0 : bysAt cX6_length 0 [42, 27, 182, 0, 194, 154, 0, 10, 42, 16, 254, 182, 0, 70, 172, 42, 180, 0, 10, 27, 182, 0, 197, 172] := bysAt_of (by decide +kernel)
theorem dX6_length_0 : decode cX6_length 0 = .ok (.aload_n 0, 1) := o_42 (bg_dX6_length_0 0 42 rfl)
theorem dX6_length_1 : decode cX6_length 1 = .ok (.iload_n 1, 1) := o_27 (bg_dX6_length_0 1 27 rfl)
theorem dX6_length_2 : decode cX6_length 2 = .ok (.invokevirtual 194, 3) := o_182 (bg_dX6_length_0 2 182 rfl) (bg_dX6_length_0 3 0 rfl) (bg_dX6_length_0 4 194 rfl)
theorem dX6_length_5 : decode cX6_length 5 = .ok (.ifCond .ne 10, 3) := o_154 (bg_dX6_length_0 5 154 rfl) (bg_dX6_length_0 6 0 rfl) (bg_dX6_length_0 7 10 rfl) (by decide +kernel)
theorem dX6_length_8 : decode cX6_length 8 = .ok (.aload_n 0, 1) := o_42 (bg_dX6_length_0 8 42 rfl)
theorem dX6_length_9 : decode cX6_length 9 = .ok (.bipush (-2), 2) := o_16 (bg_dX6_length_0 9 16 rfl) (bg_dX6_length_0 10 254 rfl) (by decide +kernel)
theorem dX6_length_11 : decode cX6_length 11 = .ok (.invokevirtual 70, 3) := o_182 (bg_dX6_length_0 11 182 rfl) (bg_dX6_length_0 12 0 rfl) (bg_dX6_length_0 13 70 rfl)
theorem dX6_length_14 : decode cX6_length 14 = .ok (.ireturn, 1) := o_172 (bg_dX6_length_0 14 172 rfl)
theorem dX6_length_15 : decode cX6_length 15 = .ok (.aload_n 0, 1) := o_42 (bg_dX6_length_0 15 42 rfl)
theorem dX6_length_16 : decode cX6_length 16 = .ok (.getfield 10, 3) := o_180 (bg_dX6_length_0 16 180 rfl) (bg_dX6_length_0 17 0 rfl) (bg_dX6_length_0 18 10 rfl)
theorem dX6_length_19 : decode cX6_length 19 = .ok (.iload_n 1, 1) := o_27 (bg_dX6_length_0 19 27 rfl)
theorem dX6_length_20 : decode cX6_length 20 = .ok (.invokevirtual 197, 3) := o_182 (bg_dX6_length_0 20 182 rfl) (bg_dX6_length_0 21 0 rfl) (bg_dX6_length_0 22 197 rfl)
theorem dX6_length_23 : decode cX6_length 23 = .ok (.ireturn, 1) := o_172 (bg_dX6_length_0 23 172 rfl)
theorem bg_dX6_needs_0 : bysAt cX6_needs 0 [42, 27, 28, 182, 0, 200, 153, 0, 11, 42, 29, 182, 0, 112, 154, 0, 10, 42, 16, 254, 182, 0, 70, 172, 42] := bysAt_of (by decide +kernel)
theorem dX6_needs_0 : decode cX6_needs 0 = .ok (.aload_n 0, 1) := o_42 (bg_dX6_needs_0 0 42 rfl)
theorem dX6_needs_1 : decode cX6_needs 1 = .ok (.iload_n 1, 1) := o_27 (bg_dX6_needs_0 1 27 rfl)
theorem dX6_needs_2 : decode cX6_needs 2 = .ok (.iload_n 2, 1) := o_28 (bg_dX6_needs_0 2 28 rfl)
theorem dX6_needs_3 : decode cX6_needs 3 = .ok (.invokevirtual 200, 3) := o_182 (bg_dX6_needs_0 3 182 rfl) (bg_dX6_needs_0 4 0 rfl) (bg_dX6_needs_0 5 200 rfl)
theorem dX6_needs_6 : decode cX6_needs 6 = .ok (.ifCond .eq 11, 3) := o_153 (bg_dX6_needs_0 6 153 rfl) (bg_dX6_needs_0 7 0 rfl) (bg_dX6_needs_0 8 11 rfl) (by decide +kernel)
theorem dX6_needs_9 : decode cX6_needs 9 = .ok (.aload_n 0, 1) := o_42 (bg_dX6_needs_0 9 42 rfl)
theorem dX6_needs_10 : decode cX6_needs 10 = .ok (.iload_n 3, 1) := o_29 (bg_dX6_needs_0 10 29 rfl)
theorem dX6_needs_11 : decode cX6_needs 11 = .ok (.invokevirtual 112, 3) := o_182 (bg_dX6_needs_0 11 182 rfl) (bg_dX6_needs_0 12 0 rfl) (bg_dX6_needs_0 13 112 rfl)
theorem dX6_needs_14 : decode cX6_needs 14 = .ok (.ifCond .ne 10, 3) := o_154 (bg_dX6_needs_0 14 154 rfl) (bg_dX6_needs_0 15 0 rfl) (bg_dX6_needs_0 16 10 rfl) (by decide +kernel)
theorem dX6_needs_17 : decode cX6_needs 17 = .ok (.aload_n 0, 1) := o_42 (bg_dX6_needs_0 17 42 rfl)
theorem dX6_needs_18 : decode cX6_needs 18 = .ok (.bipush (-2), 2) := o_16 (bg_dX6_needs_0 18 16 rfl) (bg_dX6_needs_0 19 254 rfl) (by decide +kernel)
theorem dX6_needs_20 : decode cX6_needs 20 = .ok (.invokevirtual 70, 3) := o_182 (bg_dX6_needs_0 20 182 rfl) (bg_dX6_needs_0 21 0 rfl) (bg_dX6_needs_0 22 70 rfl)
theorem dX6_needs_23 : decode cX6_needs 23 = .ok (.ireturn, 1) := o_172 (bg_dX6_needs_0 23 172 rfl)
theorem dX6_needs_24 : decode cX6_needs 24 = .ok (.aload_n 0, 1) := o_42 (bg_dX6_needs_0 24 42 rfl)
theorem bg_dX6_needs_25 : bysAt cX6_needs 25 [180, 0, 28, 180, 0, 203, 42, 180, 0, 10, 27, 28, 182, 0, 207, 42, 180, 0, 28, 180, 0, 203, 42, 180, 0, 10, 29, 182, 0, 219] := bysAt_of (by decide +kernel)
theorem dX6_needs_25 : decode cX6_needs 25 = .ok (.getfield 28, 3) := o_180 (bg_dX6_needs_25 0 180 rfl) (bg_dX6_needs_25 1 0 rfl) (bg_dX6_needs_25 2 28 rfl)
theorem dX6_needs_28 : decode cX6_needs 28 = .ok (.getfield 203, 3) := o_180 (bg_dX6_needs_25 3 180 rfl) (bg_dX6_needs_25 4 0 rfl) (bg_dX6_needs_25 5 203 rfl)
theorem dX6_needs_31 : decode cX6_needs 31 = .ok (.aload_n 0, 1) := o_42 (bg_dX6_needs_25 6 42 rfl)
theorem dX6_needs_32 : decode cX6_needs 32 = .ok (.getfield 10, 3) := o_180 (bg_dX6_needs_25 7 180 rfl) (bg_dX6_needs_25 8 0 rfl) (bg_dX6_needs_25 9 10 rfl)
theorem dX6_needs_35 : decode cX6_needs 35 = .ok (.iload_n 1, 1) := o_27 (bg_dX6_needs_25 10 27 rfl)
theorem dX6_needs_36 : decode cX6_needs 36 = .ok (.iload_n 2, 1) := o_28 (bg_dX6_needs_25 11 28 rfl)
theorem dX6_needs_37 : decode cX6_needs 37 = .ok (.invokevirtual 207, 3) := o_182 (bg_dX6_needs_25 12 182 rfl) (bg_dX6_needs_25 13 0 rfl) (bg_dX6_needs_25 14 207 rfl)
theorem dX6_needs_40 : decode cX6_needs 40 = .ok (.aload_n 0, 1) := o_42 (bg_dX6_needs_25 15 42 rfl)
theorem dX6_needs_41 : decode cX6_needs 41 = .ok (.getfield 28, 3) := o_180 (bg_dX6_needs_25 16 180 rfl) (bg_dX6_needs_25 17 0 rfl) (bg_dX6_needs_25 18 28 rfl)
theorem dX6_needs_44 : decode cX6_needs 44 = .ok (.getfield 203, 3) := o_180 (bg_dX6_needs_25 19 180 rfl) (bg_dX6_needs_25 20 0 rfl) (bg_dX6_needs_25 21 203 rfl)
theorem dX6_needs_47 : decode cX6_needs 47 = .ok (.aload_n 0, 1) := o_42 (bg_dX6_needs_25 22 42 rfl)
theorem dX6_needs_48 : decode cX6_needs 48 = .ok (.getfield 10, 3) := o_180 (bg_dX6_needs_25 23 180 rfl) (bg_dX6_needs_25 24 0 rfl) (bg_dX6_needs_25 25 10 rfl)
theorem dX6_needs_51 : decode cX6_needs 51 = .ok (.iload_n 3, 1) := o_29 (bg_dX6_needs_25 26 29 rfl)
theorem dX6_needs_52 : decode cX6_needs 52 = .ok (.invokevirtual 219, 3) := o_182 (bg_dX6_needs_25 27 182 rfl) (bg_dX6_needs_25 28 0 rfl) (bg_dX6_needs_25 29 219 rfl)
theorem bg_dX6_needs_55 : bysAt cX6_needs 55 [172] := bysAt_of (by decide +kernel)
theorem dX6_needs_55 : decode cX6_needs 55 = .ok (.ireturn, 1) := o_172 (bg_dX6_needs_55 0 172 rfl)
theorem bg_dX6_part_0 : bysAt cX6_part 0 [27, 4, 16, 99, 184, 0, 66, 153, 0, 13, 28, 3, 16, 99, 184, 0, 66, 154, 0, 10, 42, 16, 254, 182, 0, 70, 172] := bysAt_of (by decide +kernel)
theorem dX6_part_0 : decode cX6_part 0 = .ok (.iload_n 1, 1) := o_27 (bg_dX6_part_0 0 27 rfl)
theorem dX6_part_1 : decode cX6_part 1 = .ok (.iconst 1, 1) := o_4 (bg_dX6_part_0 1 4 rfl)
theorem dX6_part_2 : decode cX6_part 2 = .ok (.bipush 99, 2) := o_16 (bg_dX6_part_0 2 16 rfl) (bg_dX6_part_0 3 99 rfl) (by decide +kernel)
theorem dX6_part_4 : decode cX6_part 4 = .ok (.invokestatic 66, 3) := o_184 (bg_dX6_part_0 4 184 rfl) (bg_dX6_part_0 5 0 rfl) (bg_dX6_part_0 6 66 rfl)
theorem dX6_part_7 : decode cX6_part 7 = .ok (.ifCond .eq 13, 3) := o_153 (bg_dX6_part_0 7 153 rfl) (bg_dX6_part_0 8 0 rfl) (bg_dX6_part_0 9 13 rfl) (by decide +kernel)
theorem dX6_part_10 : decode cX6_part 10 = .ok (.iload_n 2, 1) := o_28 (bg_dX6_part_0 10 28 rfl)
theorem dX6_part_11 : decode cX6_part 11 = .ok (.iconst 0, 1) := o_3 (bg_dX6_part_0 11 3 rfl)
theorem dX6_part_12 : decode cX6_part 12 = .ok (.bipush 99, 2) := o_16 (bg_dX6_part_0 12 16 rfl) (bg_dX6_part_0 13 99 rfl) (by decide +kernel)
theorem dX6_part_14 : decode cX6_part 14 = .ok (.invokestatic 66, 3) := o_184 (bg_dX6_part_0 14 184 rfl) (bg_dX6_part_0 15 0 rfl) (bg_dX6_part_0 16 66 rfl)
theorem dX6_part_17 : decode cX6_part 17 = .ok (.ifCond .ne 10, 3) := o_154 (bg_dX6_part_0 17 154 rfl) (bg_dX6_part_0 18 0 rfl) (bg_dX6_part_0 19 10 rfl) (by decide +kernel)
theorem dX6_part_20 : decode cX6_part 20 = .ok (.aload_n 0, 1) := o_42 (bg_dX6_part_0 20 42 rfl)
theorem dX6_part_21 : decode cX6_part 21 = .ok (.bipush (-2), 2) := o_16 (bg_dX6_part_0 21 16 rfl) (bg_dX6_part_0 22 254 rfl) (by decide +kernel)
theorem dX6_part_23 : decode cX6_part 23 = .ok (.invokevirtual 70, 3) := o_182 (bg_dX6_part_0 23 182 rfl) (bg_dX6_part_0 24 0 rfl) (bg_dX6_part_0 25 70 rfl)
theorem dX6_part_26 : decode cX6_part 26 = .ok (.ireturn, 1) := o_172 (bg_dX6_part_0 26 172 rfl)
theorem bg_dX6_part_27 : bysAt cX6_part 27 [42, 180, 0, 10, 6, 182, 0, 129, 154, 0, 10, 42, 16, 250, 182, 0, 70, 172, 42, 180, 0, 10, 27, 28, 182, 0, 150] := bysAt_of (by decide +kernel)
theorem dX6_part_27 : decode cX6_part 27 = .ok (.aload_n 0, 1) := o_42 (bg_dX6_part_27 0 42 rfl)
theorem dX6_part_28 : decode cX6_part 28 = .ok (.getfield 10, 3) := o_180 (bg_dX6_part_27 1 180 rfl) (bg_dX6_part_27 2 0 rfl) (bg_dX6_part_27 3 10 rfl)
theorem dX6_part_31 : decode cX6_part 31 = .ok (.iconst 3, 1) := o_6 (bg_dX6_part_27 4 6 rfl)
theorem dX6_part_32 : decode cX6_part 32 = .ok (.invokevirtual 129, 3) := o_182 (bg_dX6_part_27 5 182 rfl) (bg_dX6_part_27 6 0 rfl) (bg_dX6_part_27 7 129 rfl)
theorem dX6_part_35 : decode cX6_part 35 = .ok (.ifCond .ne 10, 3) := o_154 (bg_dX6_part_27 8 154 rfl) (bg_dX6_part_27 9 0 rfl) (bg_dX6_part_27 10 10 rfl) (by decide +kernel)
theorem dX6_part_38 : decode cX6_part 38 = .ok (.aload_n 0, 1) := o_42 (bg_dX6_part_27 11 42 rfl)
theorem dX6_part_39 : decode cX6_part 39 = .ok (.bipush (-6), 2) := o_16 (bg_dX6_part_27 12 16 rfl) (bg_dX6_part_27 13 250 rfl) (by decide +kernel)
theorem dX6_part_41 : decode cX6_part 41 = .ok (.invokevirtual 70, 3) := o_182 (bg_dX6_part_27 14 182 rfl) (bg_dX6_part_27 15 0 rfl) (bg_dX6_part_27 16 70 rfl)
theorem dX6_part_44 : decode cX6_part 44 = .ok (.ireturn, 1) := o_172 (bg_dX6_part_27 17 172 rfl)
theorem dX6_part_45 : decode cX6_part 45 = .ok (.aload_n 0, 1) := o_42 (bg_dX6_part_27 18 42 rfl)
theorem dX6_part_46 : decode cX6_part 46 = .ok (.getfield 10, 3) := o_180 (bg_dX6_part_27 19 180 rfl) (bg_dX6_part_27 20 0 rfl) (bg_dX6_part_27 21 10 rfl)
theorem dX6_part_49 : decode cX6_part 49 = .ok (.iload_n 1, 1) := o_27 (bg_dX6_part_27 22 27 rfl)
theorem dX6_part_50 : decode cX6_part 50 = .ok (.iload_n 2, 1) := o_28 (bg_dX6_part_27 23 28 rfl)
theorem dX6_part_51 : decode cX6_part 51 = .ok (.invokevirtual 150, 3) := o_182 (bg_dX6_part_27 24 182 rfl) (bg_dX6_part_27 25 0 rfl) (bg_dX6_part_27 26 150 rfl)
theorem bg_dX6_part_54 : bysAt cX6_part 54 [172] := bysAt_of (by decide +kernel)
theorem dX6_part_54 : decode cX6_part 54 = .ok (.ireturn, 1) := o_172 (bg_dX6_part_54 0 172 rfl)
theorem bg_dX6_prop_0 : bysAt cX6_prop 0 [42, 27, 182, 0, 112, 153, 0, 25, 28, 3, 17, 3, 231, 184, 0, 66, 153, 0, 14, 29, 3, 17, 3, 231, 184, 0, 66, 154, 0, 10] := bysAt_of (by decide +kernel)
theorem dX6_prop_0 : decode cX6_prop 0 = .ok (.aload_n 0, 1) := o_42 (bg_dX6_prop_0 0 42 rfl)
theorem dX6_prop_1 : decode cX6_prop 1 = .ok (.iload_n 1, 1) := o_27 (bg_dX6_prop_0 1 27 rfl)
theorem dX6_prop_2 : decode cX6_prop 2 = .ok (.invokevirtual 112, 3) := o_182 (bg_dX6_prop_0 2 182 rfl) (bg_dX6_prop_0 3 0 rfl) (bg_dX6_prop_0 4 112 rfl)
theorem dX6_prop_5 : decode cX6_prop 5 = .ok (.ifCond .eq 25, 3) := o_153 (bg_dX6_prop_0 5 153 rfl) (bg_dX6_prop_0 6 0 rfl) (bg_dX6_prop_0 7 25 rfl) (by decide +kernel)
theorem dX6_prop_8 : decode cX6_prop 8 = .ok (.iload_n 2, 1) := o_28 (bg_dX6_prop_0 8 28 rfl)
theorem dX6_prop_9 : decode cX6_prop 9 = .ok (.iconst 0, 1) := o_3 (bg_dX6_prop_0 9 3 rfl)
theorem dX6_prop_10 : decode cX6_prop 10 = .ok (.sipush 999, 3) := o_17 (bg_dX6_prop_0 10 17 rfl) (bg_dX6_prop_0 11 3 rfl) (bg_dX6_prop_0 12 231 rfl) (by decide +kernel)
theorem dX6_prop_13 : decode cX6_prop 13 = .ok (.invokestatic 66, 3) := o_184 (bg_dX6_prop_0 13 184 rfl) (bg_dX6_prop_0 14 0 rfl) (bg_dX6_prop_0 15 66 rfl)
theorem dX6_prop_16 : decode cX6_prop 16 = .ok (.ifCond .eq 14, 3) := o_153 (bg_dX6_prop_0 16 153 rfl) (bg_dX6_prop_0 17 0 rfl) (bg_dX6_prop_0 18 14 rfl) (by decide +kernel)
theorem dX6_prop_19 : decode cX6_prop 19 = .ok (.iload_n 3, 1) := o_29 (bg_dX6_prop_0 19 29 rfl)
theorem dX6_prop_20 : decode cX6_prop 20 = .ok (.iconst 0, 1) := o_3 (bg_dX6_prop_0 20 3 rfl)
theorem dX6_prop_21 : decode cX6_prop 21 = .ok (.sipush 999, 3) := o_17 (bg_dX6_prop_0 21 17 rfl) (bg_dX6_prop_0 22 3 rfl) (bg_dX6_prop_0 23 231 rfl) (by decide +kernel)
theorem dX6_prop_24 : decode cX6_prop 24 = .ok (.invokestatic 66, 3) := o_184 (bg_dX6_prop_0 24 184 rfl) (bg_dX6_prop_0 25 0 rfl) (bg_dX6_prop_0 26 66 rfl)
theorem dX6_prop_27 : decode cX6_prop 27 = .ok (.ifCond .ne 10, 3) := o_154 (bg_dX6_prop_0 27 154 rfl) (bg_dX6_prop_0 28 0 rfl) (bg_dX6_prop_0 29 10 rfl) (by decide +kernel)
theorem bg_dX6_prop_30 : bysAt cX6_prop 30 [42, 16, 254, 182, 0, 70, 172, 42, 180, 0, 10, 27, 28, 29, 182, 0, 143, 4, 172] := bysAt_of (by decide +kernel)
theorem dX6_prop_30 : decode cX6_prop 30 = .ok (.aload_n 0, 1) := o_42 (bg_dX6_prop_30 0 42 rfl)
theorem dX6_prop_31 : decode cX6_prop 31 = .ok (.bipush (-2), 2) := o_16 (bg_dX6_prop_30 1 16 rfl) (bg_dX6_prop_30 2 254 rfl) (by decide +kernel)
theorem dX6_prop_33 : decode cX6_prop 33 = .ok (.invokevirtual 70, 3) := o_182 (bg_dX6_prop_30 3 182 rfl) (bg_dX6_prop_30 4 0 rfl) (bg_dX6_prop_30 5 70 rfl)
theorem dX6_prop_36 : decode cX6_prop 36 = .ok (.ireturn, 1) := o_172 (bg_dX6_prop_30 6 172 rfl)
theorem dX6_prop_37 : decode cX6_prop 37 = .ok (.aload_n 0, 1) := o_42 (bg_dX6_prop_30 7 42 rfl)
theorem dX6_prop_38 : decode cX6_prop 38 = .ok (.getfield 10, 3) := o_180 (bg_dX6_prop_30 8 180 rfl) (bg_dX6_prop_30 9 0 rfl) (bg_dX6_prop_30 10 10 rfl)
theorem dX6_prop_41 : decode cX6_prop 41 = .ok (.iload_n 1, 1) := o_27 (bg_dX6_prop_30 11 27 rfl)
theorem dX6_prop_42 : decode cX6_prop 42 = .ok (.iload_n 2, 1) := o_28 (bg_dX6_prop_30 12 28 rfl)
theorem dX6_prop_43 : decode cX6_prop 43 = .ok (.iload_n 3, 1) := o_29 (bg_dX6_prop_30 13 29 rfl)
theorem dX6_prop_44 : decode cX6_prop 44 = .ok (.invokevirtual 143, 3) := o_182 (bg_dX6_prop_30 14 182 rfl) (bg_dX6_prop_30 15 0 rfl) (bg_dX6_prop_30 16 143 rfl)
theorem dX6_prop_47 : decode cX6_prop 47 = .ok (.iconst 1, 1) := o_4 (bg_dX6_prop_30 17 4 rfl)
theorem dX6_prop_48 : decode cX6_prop 48 = .ok (.ireturn, 1) := o_172 (bg_dX6_prop_30 18 172 rfl)
theorem bg_dX6_road_0 : bysAt cX6_road 0 [27, 184, 0, 126, 153, 0, 58, 28, 184, 0, 126, 153, 0, 51, 27, 28, 159, 0, 46, 29, 4, 16, 60, 184, 0, 66, 153, 0, 36] := bysAt_of (by decide +kernel)
theorem dX6_road_0 : decode cX6_road 0 = .ok (.iload_n 1, 1) := o_27 (bg_dX6_road_0 0 27 rfl)
theorem dX6_road_1 : decode cX6_road 1 = .ok (.invokestatic 126, 3) := o_184 (bg_dX6_road_0 1 184 rfl) (bg_dX6_road_0 2 0 rfl) (bg_dX6_road_0 3 126 rfl)
theorem dX6_road_4 : decode cX6_road 4 = .ok (.ifCond .eq 58, 3) := o_153 (bg_dX6_road_0 4 153 rfl) (bg_dX6_road_0 5 0 rfl) (bg_dX6_road_0 6 58 rfl) (by decide +kernel)
theorem dX6_road_7 : decode cX6_road 7 = .ok (.iload_n 2, 1) := o_28 (bg_dX6_road_0 7 28 rfl)
theorem dX6_road_8 : decode cX6_road 8 = .ok (.invokestatic 126, 3) := o_184 (bg_dX6_road_0 8 184 rfl) (bg_dX6_road_0 9 0 rfl) (bg_dX6_road_0 10 126 rfl)
theorem dX6_road_11 : decode cX6_road 11 = .ok (.ifCond .eq 51, 3) := o_153 (bg_dX6_road_0 11 153 rfl) (bg_dX6_road_0 12 0 rfl) (bg_dX6_road_0 13 51 rfl) (by decide +kernel)
theorem dX6_road_14 : decode cX6_road 14 = .ok (.iload_n 1, 1) := o_27 (bg_dX6_road_0 14 27 rfl)
theorem dX6_road_15 : decode cX6_road 15 = .ok (.iload_n 2, 1) := o_28 (bg_dX6_road_0 15 28 rfl)
theorem dX6_road_16 : decode cX6_road 16 = .ok (.if_icmp .eq 46, 3) := o_159 (bg_dX6_road_0 16 159 rfl) (bg_dX6_road_0 17 0 rfl) (bg_dX6_road_0 18 46 rfl) (by decide +kernel)
theorem dX6_road_19 : decode cX6_road 19 = .ok (.iload_n 3, 1) := o_29 (bg_dX6_road_0 19 29 rfl)
theorem dX6_road_20 : decode cX6_road 20 = .ok (.iconst 1, 1) := o_4 (bg_dX6_road_0 20 4 rfl)
theorem dX6_road_21 : decode cX6_road 21 = .ok (.bipush 60, 2) := o_16 (bg_dX6_road_0 21 16 rfl) (bg_dX6_road_0 22 60 rfl) (by decide +kernel)
theorem dX6_road_23 : decode cX6_road 23 = .ok (.invokestatic 66, 3) := o_184 (bg_dX6_road_0 23 184 rfl) (bg_dX6_road_0 24 0 rfl) (bg_dX6_road_0 25 66 rfl)
theorem dX6_road_26 : decode cX6_road 26 = .ok (.ifCond .eq 36, 3) := o_153 (bg_dX6_road_0 26 153 rfl) (bg_dX6_road_0 27 0 rfl) (bg_dX6_road_0 28 36 rfl) (by decide +kernel)
theorem bg_dX6_road_29 : bysAt cX6_road 29 [21, 4, 3, 16, 9, 184, 0, 66, 153, 0, 25, 21, 5, 4, 16, 99, 184, 0, 66, 153, 0, 14, 21, 6, 3, 16, 15, 184, 0, 66] := bysAt_of (by decide +kernel)
theorem dX6_road_29 : decode cX6_road 29 = .ok (.iload 4, 2) := o_21 (bg_dX6_road_29 0 21 rfl) (bg_dX6_road_29 1 4 rfl)
theorem dX6_road_31 : decode cX6_road 31 = .ok (.iconst 0, 1) := o_3 (bg_dX6_road_29 2 3 rfl)
theorem dX6_road_32 : decode cX6_road 32 = .ok (.bipush 9, 2) := o_16 (bg_dX6_road_29 3 16 rfl) (bg_dX6_road_29 4 9 rfl) (by decide +kernel)
theorem dX6_road_34 : decode cX6_road 34 = .ok (.invokestatic 66, 3) := o_184 (bg_dX6_road_29 5 184 rfl) (bg_dX6_road_29 6 0 rfl) (bg_dX6_road_29 7 66 rfl)
theorem dX6_road_37 : decode cX6_road 37 = .ok (.ifCond .eq 25, 3) := o_153 (bg_dX6_road_29 8 153 rfl) (bg_dX6_road_29 9 0 rfl) (bg_dX6_road_29 10 25 rfl) (by decide +kernel)
theorem dX6_road_40 : decode cX6_road 40 = .ok (.iload 5, 2) := o_21 (bg_dX6_road_29 11 21 rfl) (bg_dX6_road_29 12 5 rfl)
theorem dX6_road_42 : decode cX6_road 42 = .ok (.iconst 1, 1) := o_4 (bg_dX6_road_29 13 4 rfl)
theorem dX6_road_43 : decode cX6_road 43 = .ok (.bipush 99, 2) := o_16 (bg_dX6_road_29 14 16 rfl) (bg_dX6_road_29 15 99 rfl) (by decide +kernel)
theorem dX6_road_45 : decode cX6_road 45 = .ok (.invokestatic 66, 3) := o_184 (bg_dX6_road_29 16 184 rfl) (bg_dX6_road_29 17 0 rfl) (bg_dX6_road_29 18 66 rfl)
theorem dX6_road_48 : decode cX6_road 48 = .ok (.ifCond .eq 14, 3) := o_153 (bg_dX6_road_29 19 153 rfl) (bg_dX6_road_29 20 0 rfl) (bg_dX6_road_29 21 14 rfl) (by decide +kernel)
theorem dX6_road_51 : decode cX6_road 51 = .ok (.iload 6, 2) := o_21 (bg_dX6_road_29 22 21 rfl) (bg_dX6_road_29 23 6 rfl)
theorem dX6_road_53 : decode cX6_road 53 = .ok (.iconst 0, 1) := o_3 (bg_dX6_road_29 24 3 rfl)
theorem dX6_road_54 : decode cX6_road 54 = .ok (.bipush 15, 2) := o_16 (bg_dX6_road_29 25 16 rfl) (bg_dX6_road_29 26 15 rfl) (by decide +kernel)
theorem dX6_road_56 : decode cX6_road 56 = .ok (.invokestatic 66, 3) := o_184 (bg_dX6_road_29 27 184 rfl) (bg_dX6_road_29 28 0 rfl) (bg_dX6_road_29 29 66 rfl)
theorem bg_dX6_road_59 : bysAt cX6_road 59 [154, 0, 10, 42, 16, 254, 182, 0, 70, 172, 42, 180, 0, 10, 3, 182, 0, 129, 154, 0, 10, 42, 16, 250, 182, 0, 70, 172] := bysAt_of (by decide +kernel)
theorem dX6_road_59 : decode cX6_road 59 = .ok (.ifCond .ne 10, 3) := o_154 (bg_dX6_road_59 0 154 rfl) (bg_dX6_road_59 1 0 rfl) (bg_dX6_road_59 2 10 rfl) (by decide +kernel)
theorem dX6_road_62 : decode cX6_road 62 = .ok (.aload_n 0, 1) := o_42 (bg_dX6_road_59 3 42 rfl)
theorem dX6_road_63 : decode cX6_road 63 = .ok (.bipush (-2), 2) := o_16 (bg_dX6_road_59 4 16 rfl) (bg_dX6_road_59 5 254 rfl) (by decide +kernel)
theorem dX6_road_65 : decode cX6_road 65 = .ok (.invokevirtual 70, 3) := o_182 (bg_dX6_road_59 6 182 rfl) (bg_dX6_road_59 7 0 rfl) (bg_dX6_road_59 8 70 rfl)
theorem dX6_road_68 : decode cX6_road 68 = .ok (.ireturn, 1) := o_172 (bg_dX6_road_59 9 172 rfl)
theorem dX6_road_69 : decode cX6_road 69 = .ok (.aload_n 0, 1) := o_42 (bg_dX6_road_59 10 42 rfl)
theorem dX6_road_70 : decode cX6_road 70 = .ok (.getfield 10, 3) := o_180 (bg_dX6_road_59 11 180 rfl) (bg_dX6_road_59 12 0 rfl) (bg_dX6_road_59 13 10 rfl)
theorem dX6_road_73 : decode cX6_road 73 = .ok (.iconst 0, 1) := o_3 (bg_dX6_road_59 14 3 rfl)
theorem dX6_road_74 : decode cX6_road 74 = .ok (.invokevirtual 129, 3) := o_182 (bg_dX6_road_59 15 182 rfl) (bg_dX6_road_59 16 0 rfl) (bg_dX6_road_59 17 129 rfl)
theorem dX6_road_77 : decode cX6_road 77 = .ok (.ifCond .ne 10, 3) := o_154 (bg_dX6_road_59 18 154 rfl) (bg_dX6_road_59 19 0 rfl) (bg_dX6_road_59 20 10 rfl) (by decide +kernel)
theorem dX6_road_80 : decode cX6_road 80 = .ok (.aload_n 0, 1) := o_42 (bg_dX6_road_59 21 42 rfl)
theorem dX6_road_81 : decode cX6_road 81 = .ok (.bipush (-6), 2) := o_16 (bg_dX6_road_59 22 16 rfl) (bg_dX6_road_59 23 250 rfl) (by decide +kernel)
theorem dX6_road_83 : decode cX6_road 83 = .ok (.invokevirtual 70, 3) := o_182 (bg_dX6_road_59 24 182 rfl) (bg_dX6_road_59 25 0 rfl) (bg_dX6_road_59 26 70 rfl)
theorem dX6_road_86 : decode cX6_road 86 = .ok (.ireturn, 1) := o_172 (bg_dX6_road_59 27 172 rfl)
theorem bg_dX6_road_87 : bysAt cX6_road 87 [42, 180, 0, 10, 27, 28, 29, 21, 4, 21, 5, 21, 6, 182, 0, 132, 172] := bysAt_of (by decide +kernel)
theorem dX6_road_87 : decode cX6_road 87 = .ok (.aload_n 0, 1) := o_42 (bg_dX6_road_87 0 42 rfl)
theorem dX6_road_88 : decode cX6_road 88 = .ok (.getfield 10, 3) := o_180 (bg_dX6_road_87 1 180 rfl) (bg_dX6_road_87 2 0 rfl) (bg_dX6_road_87 3 10 rfl)
theorem dX6_road_91 : decode cX6_road 91 = .ok (.iload_n 1, 1) := o_27 (bg_dX6_road_87 4 27 rfl)
theorem dX6_road_92 : decode cX6_road 92 = .ok (.iload_n 2, 1) := o_28 (bg_dX6_road_87 5 28 rfl)
theorem dX6_road_93 : decode cX6_road 93 = .ok (.iload_n 3, 1) := o_29 (bg_dX6_road_87 6 29 rfl)
theorem dX6_road_94 : decode cX6_road 94 = .ok (.iload 4, 2) := o_21 (bg_dX6_road_87 7 21 rfl) (bg_dX6_road_87 8 4 rfl)
theorem dX6_road_96 : decode cX6_road 96 = .ok (.iload 5, 2) := o_21 (bg_dX6_road_87 9 21 rfl) (bg_dX6_road_87 10 5 rfl)
theorem dX6_road_98 : decode cX6_road 98 = .ok (.iload 6, 2) := o_21 (bg_dX6_road_87 11 21 rfl) (bg_dX6_road_87 12 6 rfl)
theorem dX6_road_100 : decode cX6_road 100 = .ok (.invokevirtual 132, 3) := o_182 (bg_dX6_road_87 13 182 rfl) (bg_dX6_road_87 14 0 rfl) (bg_dX6_road_87 15 132 rfl)
theorem dX6_road_103 : decode cX6_road 103 = .ok (.ireturn, 1) := o_172 (bg_dX6_road_87 16 172 rfl)
theorem bg_dX6_roadOf_0 : bysAt cX6_roadOf 0 [42, 27, 182, 0, 136, 153, 0, 13, 28, 3, 16, 6, 184, 0, 66, 154, 0, 10, 42, 16, 254, 182, 0, 70, 172, 42] := bysAt_of (by decide +kernel)
theorem dX6_roadOf_0 : decode cX6_roadOf 0 = .ok (.aload_n 0, 1) := o_42 (bg_dX6_roadOf_0 0 42 rfl)
theorem dX6_roadOf_1 : decode cX6_roadOf 1 = .ok (.iload_n 1, 1) := o_27 (bg_dX6_roadOf_0 1 27 rfl)
theorem dX6_roadOf_2 : decode cX6_roadOf 2 = .ok (.invokevirtual 136, 3) := o_182 (bg_dX6_roadOf_0 2 182 rfl) (bg_dX6_roadOf_0 3 0 rfl) (bg_dX6_roadOf_0 4 136 rfl)
theorem dX6_roadOf_5 : decode cX6_roadOf 5 = .ok (.ifCond .eq 13, 3) := o_153 (bg_dX6_roadOf_0 5 153 rfl) (bg_dX6_roadOf_0 6 0 rfl) (bg_dX6_roadOf_0 7 13 rfl) (by decide +kernel)
theorem dX6_roadOf_8 : decode cX6_roadOf 8 = .ok (.iload_n 2, 1) := o_28 (bg_dX6_roadOf_0 8 28 rfl)
theorem dX6_roadOf_9 : decode cX6_roadOf 9 = .ok (.iconst 0, 1) := o_3 (bg_dX6_roadOf_0 9 3 rfl)
theorem dX6_roadOf_10 : decode cX6_roadOf 10 = .ok (.bipush 6, 2) := o_16 (bg_dX6_roadOf_0 10 16 rfl) (bg_dX6_roadOf_0 11 6 rfl) (by decide +kernel)
theorem dX6_roadOf_12 : decode cX6_roadOf 12 = .ok (.invokestatic 66, 3) := o_184 (bg_dX6_roadOf_0 12 184 rfl) (bg_dX6_roadOf_0 13 0 rfl) (bg_dX6_roadOf_0 14 66 rfl)
theorem dX6_roadOf_15 : decode cX6_roadOf 15 = .ok (.ifCond .ne 10, 3) := o_154 (bg_dX6_roadOf_0 15 154 rfl) (bg_dX6_roadOf_0 16 0 rfl) (bg_dX6_roadOf_0 17 10 rfl) (by decide +kernel)
theorem dX6_roadOf_18 : decode cX6_roadOf 18 = .ok (.aload_n 0, 1) := o_42 (bg_dX6_roadOf_0 18 42 rfl)
theorem dX6_roadOf_19 : decode cX6_roadOf 19 = .ok (.bipush (-2), 2) := o_16 (bg_dX6_roadOf_0 19 16 rfl) (bg_dX6_roadOf_0 20 254 rfl) (by decide +kernel)
theorem dX6_roadOf_21 : decode cX6_roadOf 21 = .ok (.invokevirtual 70, 3) := o_182 (bg_dX6_roadOf_0 21 182 rfl) (bg_dX6_roadOf_0 22 0 rfl) (bg_dX6_roadOf_0 23 70 rfl)
theorem dX6_roadOf_24 : decode cX6_roadOf 24 = .ok (.ireturn, 1) := o_172 (bg_dX6_roadOf_0 24 172 rfl)
theorem dX6_roadOf_25 : decode cX6_roadOf 25 = .ok (.aload_n 0, 1) := o_42 (bg_dX6_roadOf_0 25 42 rfl)
theorem bg_dX6_roadOf_26 : bysAt cX6_roadOf 26 [180, 0, 10, 27, 28, 182, 0, 165, 172] := bysAt_of (by decide +kernel)
theorem dX6_roadOf_26 : decode cX6_roadOf 26 = .ok (.getfield 10, 3) := o_180 (bg_dX6_roadOf_26 0 180 rfl) (bg_dX6_roadOf_26 1 0 rfl) (bg_dX6_roadOf_26 2 10 rfl)
theorem dX6_roadOf_29 : decode cX6_roadOf 29 = .ok (.iload_n 1, 1) := o_27 (bg_dX6_roadOf_26 3 27 rfl)
theorem dX6_roadOf_30 : decode cX6_roadOf 30 = .ok (.iload_n 2, 1) := o_28 (bg_dX6_roadOf_26 4 28 rfl)
theorem dX6_roadOf_31 : decode cX6_roadOf 31 = .ok (.invokevirtual 165, 3) := o_182 (bg_dX6_roadOf_26 5 182 rfl) (bg_dX6_roadOf_26 6 0 rfl) (bg_dX6_roadOf_26 7 165 rfl)
theorem dX6_roadOf_34 : decode cX6_roadOf 34 = .ok (.ireturn, 1) := o_172 (bg_dX6_roadOf_26 8 172 rfl)
theorem bg_dX6_row_0 : bysAt cX6_row 0 [27, 184, 0, 62, 153, 0, 22, 28, 3, 7, 184, 0, 66, 153, 0, 13, 29, 3, 16, 40, 184, 0, 66, 154, 0, 10, 42] := bysAt_of (by decide +kernel)
theorem dX6_row_0 : decode cX6_row 0 = .ok (.iload_n 1, 1) := o_27 (bg_dX6_row_0 0 27 rfl)
theorem dX6_row_1 : decode cX6_row 1 = .ok (.invokestatic 62, 3) := o_184 (bg_dX6_row_0 1 184 rfl) (bg_dX6_row_0 2 0 rfl) (bg_dX6_row_0 3 62 rfl)
theorem dX6_row_4 : decode cX6_row 4 = .ok (.ifCond .eq 22, 3) := o_153 (bg_dX6_row_0 4 153 rfl) (bg_dX6_row_0 5 0 rfl) (bg_dX6_row_0 6 22 rfl) (by decide +kernel)
theorem dX6_row_7 : decode cX6_row 7 = .ok (.iload_n 2, 1) := o_28 (bg_dX6_row_0 7 28 rfl)
theorem dX6_row_8 : decode cX6_row 8 = .ok (.iconst 0, 1) := o_3 (bg_dX6_row_0 8 3 rfl)
theorem dX6_row_9 : decode cX6_row 9 = .ok (.iconst 4, 1) := o_7 (bg_dX6_row_0 9 7 rfl)
theorem dX6_row_10 : decode cX6_row 10 = .ok (.invokestatic 66, 3) := o_184 (bg_dX6_row_0 10 184 rfl) (bg_dX6_row_0 11 0 rfl) (bg_dX6_row_0 12 66 rfl)
theorem dX6_row_13 : decode cX6_row 13 = .ok (.ifCond .eq 13, 3) := o_153 (bg_dX6_row_0 13 153 rfl) (bg_dX6_row_0 14 0 rfl) (bg_dX6_row_0 15 13 rfl) (by decide +kernel)
theorem dX6_row_16 : decode cX6_row 16 = .ok (.iload_n 3, 1) := o_29 (bg_dX6_row_0 16 29 rfl)
theorem dX6_row_17 : decode cX6_row 17 = .ok (.iconst 0, 1) := o_3 (bg_dX6_row_0 17 3 rfl)
theorem dX6_row_18 : decode cX6_row 18 = .ok (.bipush 40, 2) := o_16 (bg_dX6_row_0 18 16 rfl) (bg_dX6_row_0 19 40 rfl) (by decide +kernel)
theorem dX6_row_20 : decode cX6_row 20 = .ok (.invokestatic 66, 3) := o_184 (bg_dX6_row_0 20 184 rfl) (bg_dX6_row_0 21 0 rfl) (bg_dX6_row_0 22 66 rfl)
theorem dX6_row_23 : decode cX6_row 23 = .ok (.ifCond .ne 10, 3) := o_154 (bg_dX6_row_0 23 154 rfl) (bg_dX6_row_0 24 0 rfl) (bg_dX6_row_0 25 10 rfl) (by decide +kernel)
theorem dX6_row_26 : decode cX6_row 26 = .ok (.aload_n 0, 1) := o_42 (bg_dX6_row_0 26 42 rfl)
theorem bg_dX6_row_27 : bysAt cX6_row 27 [16, 254, 182, 0, 70, 172, 42, 180, 0, 35, 27, 28, 29, 182, 0, 74, 4, 172] := bysAt_of (by decide +kernel)
theorem dX6_row_27 : decode cX6_row 27 = .ok (.bipush (-2), 2) := o_16 (bg_dX6_row_27 0 16 rfl) (bg_dX6_row_27 1 254 rfl) (by decide +kernel)
theorem dX6_row_29 : decode cX6_row 29 = .ok (.invokevirtual 70, 3) := o_182 (bg_dX6_row_27 2 182 rfl) (bg_dX6_row_27 3 0 rfl) (bg_dX6_row_27 4 70 rfl)
theorem dX6_row_32 : decode cX6_row 32 = .ok (.ireturn, 1) := o_172 (bg_dX6_row_27 5 172 rfl)
theorem dX6_row_33 : decode cX6_row 33 = .ok (.aload_n 0, 1) := o_42 (bg_dX6_row_27 6 42 rfl)
theorem dX6_row_34 : decode cX6_row 34 = .ok (.getfield 35, 3) := o_180 (bg_dX6_row_27 7 180 rfl) (bg_dX6_row_27 8 0 rfl) (bg_dX6_row_27 9 35 rfl)
theorem dX6_row_37 : decode cX6_row 37 = .ok (.iload_n 1, 1) := o_27 (bg_dX6_row_27 10 27 rfl)
theorem dX6_row_38 : decode cX6_row 38 = .ok (.iload_n 2, 1) := o_28 (bg_dX6_row_27 11 28 rfl)
theorem dX6_row_39 : decode cX6_row 39 = .ok (.iload_n 3, 1) := o_29 (bg_dX6_row_27 12 29 rfl)
theorem dX6_row_40 : decode cX6_row 40 = .ok (.invokevirtual 74, 3) := o_182 (bg_dX6_row_27 13 182 rfl) (bg_dX6_row_27 14 0 rfl) (bg_dX6_row_27 15 74 rfl)
theorem dX6_row_43 : decode cX6_row 43 = .ok (.iconst 1, 1) := o_4 (bg_dX6_row_27 16 4 rfl)
theorem dX6_row_44 : decode cX6_row 44 = .ok (.ireturn, 1) := o_172 (bg_dX6_row_27 17 172 rfl)
theorem bg_dX6_says_0 : bysAt cX6_says 0 [27, 184, 0, 62, 153, 0, 12, 28, 3, 8, 184, 0, 66, 154, 0, 10, 42, 16, 254, 182, 0, 70, 172, 42, 180, 0, 35] := bysAt_of (by decide +kernel)
theorem dX6_says_0 : decode cX6_says 0 = .ok (.iload_n 1, 1) := o_27 (bg_dX6_says_0 0 27 rfl)
theorem dX6_says_1 : decode cX6_says 1 = .ok (.invokestatic 62, 3) := o_184 (bg_dX6_says_0 1 184 rfl) (bg_dX6_says_0 2 0 rfl) (bg_dX6_says_0 3 62 rfl)
theorem dX6_says_4 : decode cX6_says 4 = .ok (.ifCond .eq 12, 3) := o_153 (bg_dX6_says_0 4 153 rfl) (bg_dX6_says_0 5 0 rfl) (bg_dX6_says_0 6 12 rfl) (by decide +kernel)
theorem dX6_says_7 : decode cX6_says 7 = .ok (.iload_n 2, 1) := o_28 (bg_dX6_says_0 7 28 rfl)
theorem dX6_says_8 : decode cX6_says 8 = .ok (.iconst 0, 1) := o_3 (bg_dX6_says_0 8 3 rfl)
theorem dX6_says_9 : decode cX6_says 9 = .ok (.iconst 5, 1) := o_8 (bg_dX6_says_0 9 8 rfl)
theorem dX6_says_10 : decode cX6_says 10 = .ok (.invokestatic 66, 3) := o_184 (bg_dX6_says_0 10 184 rfl) (bg_dX6_says_0 11 0 rfl) (bg_dX6_says_0 12 66 rfl)
theorem dX6_says_13 : decode cX6_says 13 = .ok (.ifCond .ne 10, 3) := o_154 (bg_dX6_says_0 13 154 rfl) (bg_dX6_says_0 14 0 rfl) (bg_dX6_says_0 15 10 rfl) (by decide +kernel)
theorem dX6_says_16 : decode cX6_says 16 = .ok (.aload_n 0, 1) := o_42 (bg_dX6_says_0 16 42 rfl)
theorem dX6_says_17 : decode cX6_says 17 = .ok (.bipush (-2), 2) := o_16 (bg_dX6_says_0 17 16 rfl) (bg_dX6_says_0 18 254 rfl) (by decide +kernel)
theorem dX6_says_19 : decode cX6_says 19 = .ok (.invokevirtual 70, 3) := o_182 (bg_dX6_says_0 19 182 rfl) (bg_dX6_says_0 20 0 rfl) (bg_dX6_says_0 21 70 rfl)
theorem dX6_says_22 : decode cX6_says 22 = .ok (.ireturn, 1) := o_172 (bg_dX6_says_0 22 172 rfl)
theorem dX6_says_23 : decode cX6_says 23 = .ok (.aload_n 0, 1) := o_42 (bg_dX6_says_0 23 42 rfl)
theorem dX6_says_24 : decode cX6_says 24 = .ok (.getfield 35, 3) := o_180 (bg_dX6_says_0 24 180 rfl) (bg_dX6_says_0 25 0 rfl) (bg_dX6_says_0 26 35 rfl)
theorem bg_dX6_says_27 : bysAt cX6_says 27 [27, 182, 0, 102, 153, 0, 10, 42, 16, 253, 182, 0, 70, 172, 42, 180, 0, 35, 180, 0, 109, 27, 46, 16, 10, 100] := bysAt_of (by decide +kernel)
theorem dX6_says_27 : decode cX6_says 27 = .ok (.iload_n 1, 1) := o_27 (bg_dX6_says_27 0 27 rfl)
theorem dX6_says_28 : decode cX6_says 28 = .ok (.invokevirtual 102, 3) := o_182 (bg_dX6_says_27 1 182 rfl) (bg_dX6_says_27 2 0 rfl) (bg_dX6_says_27 3 102 rfl)
theorem dX6_says_31 : decode cX6_says 31 = .ok (.ifCond .eq 10, 3) := o_153 (bg_dX6_says_27 4 153 rfl) (bg_dX6_says_27 5 0 rfl) (bg_dX6_says_27 6 10 rfl) (by decide +kernel)
theorem dX6_says_34 : decode cX6_says 34 = .ok (.aload_n 0, 1) := o_42 (bg_dX6_says_27 7 42 rfl)
theorem dX6_says_35 : decode cX6_says 35 = .ok (.bipush (-3), 2) := o_16 (bg_dX6_says_27 8 16 rfl) (bg_dX6_says_27 9 253 rfl) (by decide +kernel)
theorem dX6_says_37 : decode cX6_says 37 = .ok (.invokevirtual 70, 3) := o_182 (bg_dX6_says_27 10 182 rfl) (bg_dX6_says_27 11 0 rfl) (bg_dX6_says_27 12 70 rfl)
theorem dX6_says_40 : decode cX6_says 40 = .ok (.ireturn, 1) := o_172 (bg_dX6_says_27 13 172 rfl)
theorem dX6_says_41 : decode cX6_says 41 = .ok (.aload_n 0, 1) := o_42 (bg_dX6_says_27 14 42 rfl)
theorem dX6_says_42 : decode cX6_says 42 = .ok (.getfield 35, 3) := o_180 (bg_dX6_says_27 15 180 rfl) (bg_dX6_says_27 16 0 rfl) (bg_dX6_says_27 17 35 rfl)
theorem dX6_says_45 : decode cX6_says 45 = .ok (.getfield 109, 3) := o_180 (bg_dX6_says_27 18 180 rfl) (bg_dX6_says_27 19 0 rfl) (bg_dX6_says_27 20 109 rfl)
theorem dX6_says_48 : decode cX6_says 48 = .ok (.iload_n 1, 1) := o_27 (bg_dX6_says_27 21 27 rfl)
theorem dX6_says_49 : decode cX6_says 49 = .ok (.iaload, 1) := o_46 (bg_dX6_says_27 22 46 rfl)
theorem dX6_says_50 : decode cX6_says 50 = .ok (.bipush 10, 2) := o_16 (bg_dX6_says_27 23 16 rfl) (bg_dX6_says_27 24 10 rfl) (by decide +kernel)
theorem dX6_says_52 : decode cX6_says 52 = .ok (.isub, 1) := o_100 (bg_dX6_says_27 25 100 rfl)
theorem bg_dX6_says_53 : bysAt cX6_says 53 [62, 42, 29, 182, 0, 112, 154, 0, 10, 42, 16, 252, 182, 0, 70, 172, 42, 180, 0, 10, 29, 28, 182, 0, 119] := bysAt_of (by decide +kernel)
theorem dX6_says_53 : decode cX6_says 53 = .ok (.istore_n 3, 1) := o_62 (bg_dX6_says_53 0 62 rfl)
theorem dX6_says_54 : decode cX6_says 54 = .ok (.aload_n 0, 1) := o_42 (bg_dX6_says_53 1 42 rfl)
theorem dX6_says_55 : decode cX6_says 55 = .ok (.iload_n 3, 1) := o_29 (bg_dX6_says_53 2 29 rfl)
theorem dX6_says_56 : decode cX6_says 56 = .ok (.invokevirtual 112, 3) := o_182 (bg_dX6_says_53 3 182 rfl) (bg_dX6_says_53 4 0 rfl) (bg_dX6_says_53 5 112 rfl)
theorem dX6_says_59 : decode cX6_says 59 = .ok (.ifCond .ne 10, 3) := o_154 (bg_dX6_says_53 6 154 rfl) (bg_dX6_says_53 7 0 rfl) (bg_dX6_says_53 8 10 rfl) (by decide +kernel)
theorem dX6_says_62 : decode cX6_says 62 = .ok (.aload_n 0, 1) := o_42 (bg_dX6_says_53 9 42 rfl)
theorem dX6_says_63 : decode cX6_says 63 = .ok (.bipush (-4), 2) := o_16 (bg_dX6_says_53 10 16 rfl) (bg_dX6_says_53 11 252 rfl) (by decide +kernel)
theorem dX6_says_65 : decode cX6_says 65 = .ok (.invokevirtual 70, 3) := o_182 (bg_dX6_says_53 12 182 rfl) (bg_dX6_says_53 13 0 rfl) (bg_dX6_says_53 14 70 rfl)
theorem dX6_says_68 : decode cX6_says 68 = .ok (.ireturn, 1) := o_172 (bg_dX6_says_53 15 172 rfl)
theorem dX6_says_69 : decode cX6_says 69 = .ok (.aload_n 0, 1) := o_42 (bg_dX6_says_53 16 42 rfl)
theorem dX6_says_70 : decode cX6_says 70 = .ok (.getfield 10, 3) := o_180 (bg_dX6_says_53 17 180 rfl) (bg_dX6_says_53 18 0 rfl) (bg_dX6_says_53 19 10 rfl)
theorem dX6_says_73 : decode cX6_says 73 = .ok (.iload_n 3, 1) := o_29 (bg_dX6_says_53 20 29 rfl)
theorem dX6_says_74 : decode cX6_says 74 = .ok (.iload_n 2, 1) := o_28 (bg_dX6_says_53 21 28 rfl)
theorem dX6_says_75 : decode cX6_says 75 = .ok (.invokevirtual 119, 3) := o_182 (bg_dX6_says_53 22 182 rfl) (bg_dX6_says_53 23 0 rfl) (bg_dX6_says_53 24 119 rfl)
theorem bg_dX6_says_78 : bysAt cX6_says 78 [154, 0, 10, 42, 16, 253, 182, 0, 70, 172, 42, 29, 28, 182, 0, 122, 172] := bysAt_of (by decide +kernel)
theorem dX6_says_78 : decode cX6_says 78 = .ok (.ifCond .ne 10, 3) := o_154 (bg_dX6_says_78 0 154 rfl) (bg_dX6_says_78 1 0 rfl) (bg_dX6_says_78 2 10 rfl) (by decide +kernel)
theorem dX6_says_81 : decode cX6_says 81 = .ok (.aload_n 0, 1) := o_42 (bg_dX6_says_78 3 42 rfl)
theorem dX6_says_82 : decode cX6_says 82 = .ok (.bipush (-3), 2) := o_16 (bg_dX6_says_78 4 16 rfl) (bg_dX6_says_78 5 253 rfl) (by decide +kernel)
theorem dX6_says_84 : decode cX6_says 84 = .ok (.invokevirtual 70, 3) := o_182 (bg_dX6_says_78 6 182 rfl) (bg_dX6_says_78 7 0 rfl) (bg_dX6_says_78 8 70 rfl)
theorem dX6_says_87 : decode cX6_says 87 = .ok (.ireturn, 1) := o_172 (bg_dX6_says_78 9 172 rfl)
theorem dX6_says_88 : decode cX6_says 88 = .ok (.aload_n 0, 1) := o_42 (bg_dX6_says_78 10 42 rfl)
theorem dX6_says_89 : decode cX6_says 89 = .ok (.iload_n 3, 1) := o_29 (bg_dX6_says_78 11 29 rfl)
theorem dX6_says_90 : decode cX6_says 90 = .ok (.iload_n 2, 1) := o_28 (bg_dX6_says_78 12 28 rfl)
theorem dX6_says_91 : decode cX6_says 91 = .ok (.invokevirtual 122, 3) := o_182 (bg_dX6_says_78 13 182 rfl) (bg_dX6_says_78 14 0 rfl) (bg_dX6_says_78 15 122 rfl)
theorem dX6_says_94 : decode cX6_says 94 = .ok (.ireturn, 1) := o_172 (bg_dX6_says_78 16 172 rfl)
theorem bg_dX6_set_0 : bysAt cX6_set 0 [42, 27, 182, 0, 78, 54, 5, 21, 5, 153, 0, 10, 42, 21, 5, 182, 0, 70, 172, 28, 3, 42, 180, 0, 35] := bysAt_of (by decide +kernel)
theorem dX6_set_0 : decode cX6_set 0 = .ok (.aload_n 0, 1) := o_42 (bg_dX6_set_0 0 42 rfl)
theorem dX6_set_1 : decode cX6_set 1 = .ok (.iload_n 1, 1) := o_27 (bg_dX6_set_0 1 27 rfl)
theorem dX6_set_2 : decode cX6_set 2 = .ok (.invokevirtual 78, 3) := o_182 (bg_dX6_set_0 2 182 rfl) (bg_dX6_set_0 3 0 rfl) (bg_dX6_set_0 4 78 rfl)
theorem dX6_set_5 : decode cX6_set 5 = .ok (.istore 5, 2) := o_54 (bg_dX6_set_0 5 54 rfl) (bg_dX6_set_0 6 5 rfl)
theorem dX6_set_7 : decode cX6_set 7 = .ok (.iload 5, 2) := o_21 (bg_dX6_set_0 7 21 rfl) (bg_dX6_set_0 8 5 rfl)
theorem dX6_set_9 : decode cX6_set 9 = .ok (.ifCond .eq 10, 3) := o_153 (bg_dX6_set_0 9 153 rfl) (bg_dX6_set_0 10 0 rfl) (bg_dX6_set_0 11 10 rfl) (by decide +kernel)
theorem dX6_set_12 : decode cX6_set 12 = .ok (.aload_n 0, 1) := o_42 (bg_dX6_set_0 12 42 rfl)
theorem dX6_set_13 : decode cX6_set 13 = .ok (.iload 5, 2) := o_21 (bg_dX6_set_0 13 21 rfl) (bg_dX6_set_0 14 5 rfl)
theorem dX6_set_15 : decode cX6_set 15 = .ok (.invokevirtual 70, 3) := o_182 (bg_dX6_set_0 15 182 rfl) (bg_dX6_set_0 16 0 rfl) (bg_dX6_set_0 17 70 rfl)
theorem dX6_set_18 : decode cX6_set 18 = .ok (.ireturn, 1) := o_172 (bg_dX6_set_0 18 172 rfl)
theorem dX6_set_19 : decode cX6_set 19 = .ok (.iload_n 2, 1) := o_28 (bg_dX6_set_0 19 28 rfl)
theorem dX6_set_20 : decode cX6_set 20 = .ok (.iconst 0, 1) := o_3 (bg_dX6_set_0 20 3 rfl)
theorem dX6_set_21 : decode cX6_set 21 = .ok (.aload_n 0, 1) := o_42 (bg_dX6_set_0 21 42 rfl)
theorem dX6_set_22 : decode cX6_set 22 = .ok (.getfield 35, 3) := o_180 (bg_dX6_set_0 22 180 rfl) (bg_dX6_set_0 23 0 rfl) (bg_dX6_set_0 24 35 rfl)
theorem bg_dX6_set_25 : bysAt cX6_set 25 [180, 0, 81, 27, 46, 4, 100, 184, 0, 66, 154, 0, 10, 42, 16, 254, 182, 0, 70, 172, 42, 180, 0, 35, 27] := bysAt_of (by decide +kernel)
theorem dX6_set_25 : decode cX6_set 25 = .ok (.getfield 81, 3) := o_180 (bg_dX6_set_25 0 180 rfl) (bg_dX6_set_25 1 0 rfl) (bg_dX6_set_25 2 81 rfl)
theorem dX6_set_28 : decode cX6_set 28 = .ok (.iload_n 1, 1) := o_27 (bg_dX6_set_25 3 27 rfl)
theorem dX6_set_29 : decode cX6_set 29 = .ok (.iaload, 1) := o_46 (bg_dX6_set_25 4 46 rfl)
theorem dX6_set_30 : decode cX6_set 30 = .ok (.iconst 1, 1) := o_4 (bg_dX6_set_25 5 4 rfl)
theorem dX6_set_31 : decode cX6_set 31 = .ok (.isub, 1) := o_100 (bg_dX6_set_25 6 100 rfl)
theorem dX6_set_32 : decode cX6_set 32 = .ok (.invokestatic 66, 3) := o_184 (bg_dX6_set_25 7 184 rfl) (bg_dX6_set_25 8 0 rfl) (bg_dX6_set_25 9 66 rfl)
theorem dX6_set_35 : decode cX6_set 35 = .ok (.ifCond .ne 10, 3) := o_154 (bg_dX6_set_25 10 154 rfl) (bg_dX6_set_25 11 0 rfl) (bg_dX6_set_25 12 10 rfl) (by decide +kernel)
theorem dX6_set_38 : decode cX6_set 38 = .ok (.aload_n 0, 1) := o_42 (bg_dX6_set_25 13 42 rfl)
theorem dX6_set_39 : decode cX6_set 39 = .ok (.bipush (-2), 2) := o_16 (bg_dX6_set_25 14 16 rfl) (bg_dX6_set_25 15 254 rfl) (by decide +kernel)
theorem dX6_set_41 : decode cX6_set 41 = .ok (.invokevirtual 70, 3) := o_182 (bg_dX6_set_25 16 182 rfl) (bg_dX6_set_25 17 0 rfl) (bg_dX6_set_25 18 70 rfl)
theorem dX6_set_44 : decode cX6_set 44 = .ok (.ireturn, 1) := o_172 (bg_dX6_set_25 19 172 rfl)
theorem dX6_set_45 : decode cX6_set 45 = .ok (.aload_n 0, 1) := o_42 (bg_dX6_set_25 20 42 rfl)
theorem dX6_set_46 : decode cX6_set 46 = .ok (.getfield 35, 3) := o_180 (bg_dX6_set_25 21 180 rfl) (bg_dX6_set_25 22 0 rfl) (bg_dX6_set_25 23 35 rfl)
theorem dX6_set_49 : decode cX6_set 49 = .ok (.iload_n 1, 1) := o_27 (bg_dX6_set_25 24 27 rfl)
theorem bg_dX6_set_50 : bysAt cX6_set 50 [28, 33, 182, 0, 84, 4, 172] := bysAt_of (by decide +kernel)
theorem dX6_set_50 : decode cX6_set 50 = .ok (.iload_n 2, 1) := o_28 (bg_dX6_set_50 0 28 rfl)
theorem dX6_set_51 : decode cX6_set 51 = .ok (.lload_n 3, 1) := o_33 (bg_dX6_set_50 1 33 rfl)
theorem dX6_set_52 : decode cX6_set 52 = .ok (.invokevirtual 84, 3) := o_182 (bg_dX6_set_50 2 182 rfl) (bg_dX6_set_50 3 0 rfl) (bg_dX6_set_50 4 84 rfl)
theorem dX6_set_55 : decode cX6_set 55 = .ok (.iconst 1, 1) := o_4 (bg_dX6_set_50 5 4 rfl)
theorem dX6_set_56 : decode cX6_set 56 = .ok (.ireturn, 1) := o_172 (bg_dX6_set_50 6 172 rfl)
theorem bg_dX6_show_0 : bysAt cX6_show 0 [27, 184, 0, 62, 153, 0, 16, 28, 2, 159, 0, 18, 42, 28, 182, 0, 112, 154, 0, 10, 42, 16, 254, 182, 0, 70, 172] := bysAt_of (by decide +kernel)
theorem dX6_show_0 : decode cX6_show 0 = .ok (.iload_n 1, 1) := o_27 (bg_dX6_show_0 0 27 rfl)
theorem dX6_show_1 : decode cX6_show 1 = .ok (.invokestatic 62, 3) := o_184 (bg_dX6_show_0 1 184 rfl) (bg_dX6_show_0 2 0 rfl) (bg_dX6_show_0 3 62 rfl)
theorem dX6_show_4 : decode cX6_show 4 = .ok (.ifCond .eq 16, 3) := o_153 (bg_dX6_show_0 4 153 rfl) (bg_dX6_show_0 5 0 rfl) (bg_dX6_show_0 6 16 rfl) (by decide +kernel)
theorem dX6_show_7 : decode cX6_show 7 = .ok (.iload_n 2, 1) := o_28 (bg_dX6_show_0 7 28 rfl)
theorem dX6_show_8 : decode cX6_show 8 = .ok (.iconst (-1), 1) := o_2 (bg_dX6_show_0 8 2 rfl)
theorem dX6_show_9 : decode cX6_show 9 = .ok (.if_icmp .eq 18, 3) := o_159 (bg_dX6_show_0 9 159 rfl) (bg_dX6_show_0 10 0 rfl) (bg_dX6_show_0 11 18 rfl) (by decide +kernel)
theorem dX6_show_12 : decode cX6_show 12 = .ok (.aload_n 0, 1) := o_42 (bg_dX6_show_0 12 42 rfl)
theorem dX6_show_13 : decode cX6_show 13 = .ok (.iload_n 2, 1) := o_28 (bg_dX6_show_0 13 28 rfl)
theorem dX6_show_14 : decode cX6_show 14 = .ok (.invokevirtual 112, 3) := o_182 (bg_dX6_show_0 14 182 rfl) (bg_dX6_show_0 15 0 rfl) (bg_dX6_show_0 16 112 rfl)
theorem dX6_show_17 : decode cX6_show 17 = .ok (.ifCond .ne 10, 3) := o_154 (bg_dX6_show_0 17 154 rfl) (bg_dX6_show_0 18 0 rfl) (bg_dX6_show_0 19 10 rfl) (by decide +kernel)
theorem dX6_show_20 : decode cX6_show 20 = .ok (.aload_n 0, 1) := o_42 (bg_dX6_show_0 20 42 rfl)
theorem dX6_show_21 : decode cX6_show 21 = .ok (.bipush (-2), 2) := o_16 (bg_dX6_show_0 21 16 rfl) (bg_dX6_show_0 22 254 rfl) (by decide +kernel)
theorem dX6_show_23 : decode cX6_show 23 = .ok (.invokevirtual 70, 3) := o_182 (bg_dX6_show_0 23 182 rfl) (bg_dX6_show_0 24 0 rfl) (bg_dX6_show_0 25 70 rfl)
theorem dX6_show_26 : decode cX6_show 26 = .ok (.ireturn, 1) := o_172 (bg_dX6_show_0 26 172 rfl)
theorem bg_dX6_show_27 : bysAt cX6_show 27 [42, 180, 0, 35, 27, 28, 182, 0, 115, 4, 172] := bysAt_of (by decide +kernel)
theorem dX6_show_27 : decode cX6_show 27 = .ok (.aload_n 0, 1) := o_42 (bg_dX6_show_27 0 42 rfl)
theorem dX6_show_28 : decode cX6_show 28 = .ok (.getfield 35, 3) := o_180 (bg_dX6_show_27 1 180 rfl) (bg_dX6_show_27 2 0 rfl) (bg_dX6_show_27 3 35 rfl)
theorem dX6_show_31 : decode cX6_show 31 = .ok (.iload_n 1, 1) := o_27 (bg_dX6_show_27 4 27 rfl)
theorem dX6_show_32 : decode cX6_show 32 = .ok (.iload_n 2, 1) := o_28 (bg_dX6_show_27 5 28 rfl)
theorem dX6_show_33 : decode cX6_show 33 = .ok (.invokevirtual 115, 3) := o_182 (bg_dX6_show_27 6 182 rfl) (bg_dX6_show_27 7 0 rfl) (bg_dX6_show_27 8 115 rfl)
theorem dX6_show_36 : decode cX6_show 36 = .ok (.iconst 1, 1) := o_4 (bg_dX6_show_27 9 4 rfl)
theorem dX6_show_37 : decode cX6_show 37 = .ok (.ireturn, 1) := o_172 (bg_dX6_show_27 10 172 rfl)
theorem bg_dX6_shut_0 : bysAt cX6_shut 0 [42, 27, 182, 0, 136, 154, 0, 10, 42, 16, 254, 182, 0, 70, 172, 28, 153, 0, 7, 4, 167, 0, 4, 3, 62] := bysAt_of (by decide +kernel)
theorem dX6_shut_0 : decode cX6_shut 0 = .ok (.aload_n 0, 1) := o_42 (bg_dX6_shut_0 0 42 rfl)
theorem dX6_shut_1 : decode cX6_shut 1 = .ok (.iload_n 1, 1) := o_27 (bg_dX6_shut_0 1 27 rfl)
theorem dX6_shut_2 : decode cX6_shut 2 = .ok (.invokevirtual 136, 3) := o_182 (bg_dX6_shut_0 2 182 rfl) (bg_dX6_shut_0 3 0 rfl) (bg_dX6_shut_0 4 136 rfl)
theorem dX6_shut_5 : decode cX6_shut 5 = .ok (.ifCond .ne 10, 3) := o_154 (bg_dX6_shut_0 5 154 rfl) (bg_dX6_shut_0 6 0 rfl) (bg_dX6_shut_0 7 10 rfl) (by decide +kernel)
theorem dX6_shut_8 : decode cX6_shut 8 = .ok (.aload_n 0, 1) := o_42 (bg_dX6_shut_0 8 42 rfl)
theorem dX6_shut_9 : decode cX6_shut 9 = .ok (.bipush (-2), 2) := o_16 (bg_dX6_shut_0 9 16 rfl) (bg_dX6_shut_0 10 254 rfl) (by decide +kernel)
theorem dX6_shut_11 : decode cX6_shut 11 = .ok (.invokevirtual 70, 3) := o_182 (bg_dX6_shut_0 11 182 rfl) (bg_dX6_shut_0 12 0 rfl) (bg_dX6_shut_0 13 70 rfl)
theorem dX6_shut_14 : decode cX6_shut 14 = .ok (.ireturn, 1) := o_172 (bg_dX6_shut_0 14 172 rfl)
theorem dX6_shut_15 : decode cX6_shut 15 = .ok (.iload_n 2, 1) := o_28 (bg_dX6_shut_0 15 28 rfl)
theorem dX6_shut_16 : decode cX6_shut 16 = .ok (.ifCond .eq 7, 3) := o_153 (bg_dX6_shut_0 16 153 rfl) (bg_dX6_shut_0 17 0 rfl) (bg_dX6_shut_0 18 7 rfl) (by decide +kernel)
theorem dX6_shut_19 : decode cX6_shut 19 = .ok (.iconst 1, 1) := o_4 (bg_dX6_shut_0 19 4 rfl)
theorem dX6_shut_20 : decode cX6_shut 20 = .ok (.goto 4, 3) := o_167 (bg_dX6_shut_0 20 167 rfl) (bg_dX6_shut_0 21 0 rfl) (bg_dX6_shut_0 22 4 rfl) (by decide +kernel)
theorem dX6_shut_23 : decode cX6_shut 23 = .ok (.iconst 0, 1) := o_3 (bg_dX6_shut_0 23 3 rfl)
theorem dX6_shut_24 : decode cX6_shut 24 = .ok (.istore_n 3, 1) := o_62 (bg_dX6_shut_0 24 62 rfl)
theorem bg_dX6_shut_25 : bysAt cX6_shut 25 [42, 180, 0, 10, 27, 16, 6, 182, 0, 165, 29, 160, 0, 5, 3, 172, 42, 180, 0, 10, 180, 0, 168, 27, 16, 7] := bysAt_of (by decide +kernel)
theorem dX6_shut_25 : decode cX6_shut 25 = .ok (.aload_n 0, 1) := o_42 (bg_dX6_shut_25 0 42 rfl)
theorem dX6_shut_26 : decode cX6_shut 26 = .ok (.getfield 10, 3) := o_180 (bg_dX6_shut_25 1 180 rfl) (bg_dX6_shut_25 2 0 rfl) (bg_dX6_shut_25 3 10 rfl)
theorem dX6_shut_29 : decode cX6_shut 29 = .ok (.iload_n 1, 1) := o_27 (bg_dX6_shut_25 4 27 rfl)
theorem dX6_shut_30 : decode cX6_shut 30 = .ok (.bipush 6, 2) := o_16 (bg_dX6_shut_25 5 16 rfl) (bg_dX6_shut_25 6 6 rfl) (by decide +kernel)
theorem dX6_shut_32 : decode cX6_shut 32 = .ok (.invokevirtual 165, 3) := o_182 (bg_dX6_shut_25 7 182 rfl) (bg_dX6_shut_25 8 0 rfl) (bg_dX6_shut_25 9 165 rfl)
theorem dX6_shut_35 : decode cX6_shut 35 = .ok (.iload_n 3, 1) := o_29 (bg_dX6_shut_25 10 29 rfl)
theorem dX6_shut_36 : decode cX6_shut 36 = .ok (.if_icmp .ne 5, 3) := o_160 (bg_dX6_shut_25 11 160 rfl) (bg_dX6_shut_25 12 0 rfl) (bg_dX6_shut_25 13 5 rfl) (by decide +kernel)
theorem dX6_shut_39 : decode cX6_shut 39 = .ok (.iconst 0, 1) := o_3 (bg_dX6_shut_25 14 3 rfl)
theorem dX6_shut_40 : decode cX6_shut 40 = .ok (.ireturn, 1) := o_172 (bg_dX6_shut_25 15 172 rfl)
theorem dX6_shut_41 : decode cX6_shut 41 = .ok (.aload_n 0, 1) := o_42 (bg_dX6_shut_25 16 42 rfl)
theorem dX6_shut_42 : decode cX6_shut 42 = .ok (.getfield 10, 3) := o_180 (bg_dX6_shut_25 17 180 rfl) (bg_dX6_shut_25 18 0 rfl) (bg_dX6_shut_25 19 10 rfl)
theorem dX6_shut_45 : decode cX6_shut 45 = .ok (.getfield 168, 3) := o_180 (bg_dX6_shut_25 20 180 rfl) (bg_dX6_shut_25 21 0 rfl) (bg_dX6_shut_25 22 168 rfl)
theorem dX6_shut_48 : decode cX6_shut 48 = .ok (.iload_n 1, 1) := o_27 (bg_dX6_shut_25 23 27 rfl)
theorem dX6_shut_49 : decode cX6_shut 49 = .ok (.bipush 7, 2) := o_16 (bg_dX6_shut_25 24 16 rfl) (bg_dX6_shut_25 25 7 rfl) (by decide +kernel)
theorem bg_dX6_shut_51 : bysAt cX6_shut 51 [104, 16, 6, 96, 29, 79, 4, 172] := bysAt_of (by decide +kernel)
theorem dX6_shut_51 : decode cX6_shut 51 = .ok (.imul, 1) := o_104 (bg_dX6_shut_51 0 104 rfl)
theorem dX6_shut_52 : decode cX6_shut 52 = .ok (.bipush 6, 2) := o_16 (bg_dX6_shut_51 1 16 rfl) (bg_dX6_shut_51 2 6 rfl) (by decide +kernel)
theorem dX6_shut_54 : decode cX6_shut 54 = .ok (.iadd, 1) := o_96 (bg_dX6_shut_51 3 96 rfl)
theorem dX6_shut_55 : decode cX6_shut 55 = .ok (.iload_n 3, 1) := o_29 (bg_dX6_shut_51 4 29 rfl)
theorem dX6_shut_56 : decode cX6_shut 56 = .ok (.iastore, 1) := o_79 (bg_dX6_shut_51 5 79 rfl)
theorem dX6_shut_57 : decode cX6_shut 57 = .ok (.iconst 1, 1) := o_4 (bg_dX6_shut_51 6 4 rfl)
theorem dX6_shut_58 : decode cX6_shut 58 = .ok (.ireturn, 1) := o_172 (bg_dX6_shut_51 7 172 rfl)
theorem bg_dX6_stand_0 : bysAt cX6_stand 0 [42, 27, 182, 0, 112, 153, 0, 12, 28, 3, 5, 184, 0, 66, 154, 0, 10, 42, 16, 254, 182, 0, 70, 172, 16, 7] := bysAt_of (by decide +kernel)
theorem dX6_stand_0 : decode cX6_stand 0 = .ok (.aload_n 0, 1) := o_42 (bg_dX6_stand_0 0 42 rfl)
theorem dX6_stand_1 : decode cX6_stand 1 = .ok (.iload_n 1, 1) := o_27 (bg_dX6_stand_0 1 27 rfl)
theorem dX6_stand_2 : decode cX6_stand 2 = .ok (.invokevirtual 112, 3) := o_182 (bg_dX6_stand_0 2 182 rfl) (bg_dX6_stand_0 3 0 rfl) (bg_dX6_stand_0 4 112 rfl)
theorem dX6_stand_5 : decode cX6_stand 5 = .ok (.ifCond .eq 12, 3) := o_153 (bg_dX6_stand_0 5 153 rfl) (bg_dX6_stand_0 6 0 rfl) (bg_dX6_stand_0 7 12 rfl) (by decide +kernel)
theorem dX6_stand_8 : decode cX6_stand 8 = .ok (.iload_n 2, 1) := o_28 (bg_dX6_stand_0 8 28 rfl)
theorem dX6_stand_9 : decode cX6_stand 9 = .ok (.iconst 0, 1) := o_3 (bg_dX6_stand_0 9 3 rfl)
theorem dX6_stand_10 : decode cX6_stand 10 = .ok (.iconst 2, 1) := o_5 (bg_dX6_stand_0 10 5 rfl)
theorem dX6_stand_11 : decode cX6_stand 11 = .ok (.invokestatic 66, 3) := o_184 (bg_dX6_stand_0 11 184 rfl) (bg_dX6_stand_0 12 0 rfl) (bg_dX6_stand_0 13 66 rfl)
theorem dX6_stand_14 : decode cX6_stand 14 = .ok (.ifCond .ne 10, 3) := o_154 (bg_dX6_stand_0 14 154 rfl) (bg_dX6_stand_0 15 0 rfl) (bg_dX6_stand_0 16 10 rfl) (by decide +kernel)
theorem dX6_stand_17 : decode cX6_stand 17 = .ok (.aload_n 0, 1) := o_42 (bg_dX6_stand_0 17 42 rfl)
theorem dX6_stand_18 : decode cX6_stand 18 = .ok (.bipush (-2), 2) := o_16 (bg_dX6_stand_0 18 16 rfl) (bg_dX6_stand_0 19 254 rfl) (by decide +kernel)
theorem dX6_stand_20 : decode cX6_stand 20 = .ok (.invokevirtual 70, 3) := o_182 (bg_dX6_stand_0 20 182 rfl) (bg_dX6_stand_0 21 0 rfl) (bg_dX6_stand_0 22 70 rfl)
theorem dX6_stand_23 : decode cX6_stand 23 = .ok (.ireturn, 1) := o_172 (bg_dX6_stand_0 23 172 rfl)
theorem dX6_stand_24 : decode cX6_stand 24 = .ok (.bipush 7, 2) := o_16 (bg_dX6_stand_0 24 16 rfl) (bg_dX6_stand_0 25 7 rfl) (by decide +kernel)
theorem bg_dX6_stand_26 : bysAt cX6_stand 26 [28, 96, 54, 4, 21, 4, 16, 7, 160, 0, 27, 29, 153, 0, 23, 42, 180, 0, 10, 27, 4, 182, 0, 159, 6] := bysAt_of (by decide +kernel)
theorem dX6_stand_26 : decode cX6_stand 26 = .ok (.iload_n 2, 1) := o_28 (bg_dX6_stand_26 0 28 rfl)
theorem dX6_stand_27 : decode cX6_stand 27 = .ok (.iadd, 1) := o_96 (bg_dX6_stand_26 1 96 rfl)
theorem dX6_stand_28 : decode cX6_stand 28 = .ok (.istore 4, 2) := o_54 (bg_dX6_stand_26 2 54 rfl) (bg_dX6_stand_26 3 4 rfl)
theorem dX6_stand_30 : decode cX6_stand 30 = .ok (.iload 4, 2) := o_21 (bg_dX6_stand_26 4 21 rfl) (bg_dX6_stand_26 5 4 rfl)
theorem dX6_stand_32 : decode cX6_stand 32 = .ok (.bipush 7, 2) := o_16 (bg_dX6_stand_26 6 16 rfl) (bg_dX6_stand_26 7 7 rfl) (by decide +kernel)
theorem dX6_stand_34 : decode cX6_stand 34 = .ok (.if_icmp .ne 27, 3) := o_160 (bg_dX6_stand_26 8 160 rfl) (bg_dX6_stand_26 9 0 rfl) (bg_dX6_stand_26 10 27 rfl) (by decide +kernel)
theorem dX6_stand_37 : decode cX6_stand 37 = .ok (.iload_n 3, 1) := o_29 (bg_dX6_stand_26 11 29 rfl)
theorem dX6_stand_38 : decode cX6_stand 38 = .ok (.ifCond .eq 23, 3) := o_153 (bg_dX6_stand_26 12 153 rfl) (bg_dX6_stand_26 13 0 rfl) (bg_dX6_stand_26 14 23 rfl) (by decide +kernel)
theorem dX6_stand_41 : decode cX6_stand 41 = .ok (.aload_n 0, 1) := o_42 (bg_dX6_stand_26 15 42 rfl)
theorem dX6_stand_42 : decode cX6_stand 42 = .ok (.getfield 10, 3) := o_180 (bg_dX6_stand_26 16 180 rfl) (bg_dX6_stand_26 17 0 rfl) (bg_dX6_stand_26 18 10 rfl)
theorem dX6_stand_45 : decode cX6_stand 45 = .ok (.iload_n 1, 1) := o_27 (bg_dX6_stand_26 19 27 rfl)
theorem dX6_stand_46 : decode cX6_stand 46 = .ok (.iconst 1, 1) := o_4 (bg_dX6_stand_26 20 4 rfl)
theorem dX6_stand_47 : decode cX6_stand 47 = .ok (.invokevirtual 159, 3) := o_182 (bg_dX6_stand_26 21 182 rfl) (bg_dX6_stand_26 22 0 rfl) (bg_dX6_stand_26 23 159 rfl)
theorem dX6_stand_50 : decode cX6_stand 50 = .ok (.iconst 3, 1) := o_6 (bg_dX6_stand_26 24 6 rfl)
theorem bg_dX6_stand_51 : bysAt cX6_stand 51 [160, 0, 10, 42, 16, 251, 182, 0, 70, 172, 29, 153, 0, 7, 4, 167, 0, 4, 3, 54, 5, 42, 180, 0, 10, 27] := bysAt_of (by decide +kernel)
theorem dX6_stand_51 : decode cX6_stand 51 = .ok (.if_icmp .ne 10, 3) := o_160 (bg_dX6_stand_51 0 160 rfl) (bg_dX6_stand_51 1 0 rfl) (bg_dX6_stand_51 2 10 rfl) (by decide +kernel)
theorem dX6_stand_54 : decode cX6_stand 54 = .ok (.aload_n 0, 1) := o_42 (bg_dX6_stand_51 3 42 rfl)
theorem dX6_stand_55 : decode cX6_stand 55 = .ok (.bipush (-5), 2) := o_16 (bg_dX6_stand_51 4 16 rfl) (bg_dX6_stand_51 5 251 rfl) (by decide +kernel)
theorem dX6_stand_57 : decode cX6_stand 57 = .ok (.invokevirtual 70, 3) := o_182 (bg_dX6_stand_51 6 182 rfl) (bg_dX6_stand_51 7 0 rfl) (bg_dX6_stand_51 8 70 rfl)
theorem dX6_stand_60 : decode cX6_stand 60 = .ok (.ireturn, 1) := o_172 (bg_dX6_stand_51 9 172 rfl)
theorem dX6_stand_61 : decode cX6_stand 61 = .ok (.iload_n 3, 1) := o_29 (bg_dX6_stand_51 10 29 rfl)
theorem dX6_stand_62 : decode cX6_stand 62 = .ok (.ifCond .eq 7, 3) := o_153 (bg_dX6_stand_51 11 153 rfl) (bg_dX6_stand_51 12 0 rfl) (bg_dX6_stand_51 13 7 rfl) (by decide +kernel)
theorem dX6_stand_65 : decode cX6_stand 65 = .ok (.iconst 1, 1) := o_4 (bg_dX6_stand_51 14 4 rfl)
theorem dX6_stand_66 : decode cX6_stand 66 = .ok (.goto 4, 3) := o_167 (bg_dX6_stand_51 15 167 rfl) (bg_dX6_stand_51 16 0 rfl) (bg_dX6_stand_51 17 4 rfl) (by decide +kernel)
theorem dX6_stand_69 : decode cX6_stand 69 = .ok (.iconst 0, 1) := o_3 (bg_dX6_stand_51 18 3 rfl)
theorem dX6_stand_70 : decode cX6_stand 70 = .ok (.istore 5, 2) := o_54 (bg_dX6_stand_51 19 54 rfl) (bg_dX6_stand_51 20 5 rfl)
theorem dX6_stand_72 : decode cX6_stand 72 = .ok (.aload_n 0, 1) := o_42 (bg_dX6_stand_51 21 42 rfl)
theorem dX6_stand_73 : decode cX6_stand 73 = .ok (.getfield 10, 3) := o_180 (bg_dX6_stand_51 22 180 rfl) (bg_dX6_stand_51 23 0 rfl) (bg_dX6_stand_51 24 10 rfl)
theorem dX6_stand_76 : decode cX6_stand 76 = .ok (.iload_n 1, 1) := o_27 (bg_dX6_stand_51 25 27 rfl)
theorem bg_dX6_stand_77 : bysAt cX6_stand 77 [21, 4, 182, 0, 159, 21, 5, 160, 0, 5, 3, 172, 42, 180, 0, 10, 27, 21, 4, 21, 5, 182, 0, 162, 4, 172] := bysAt_of (by decide +kernel)
theorem dX6_stand_77 : decode cX6_stand 77 = .ok (.iload 4, 2) := o_21 (bg_dX6_stand_77 0 21 rfl) (bg_dX6_stand_77 1 4 rfl)
theorem dX6_stand_79 : decode cX6_stand 79 = .ok (.invokevirtual 159, 3) := o_182 (bg_dX6_stand_77 2 182 rfl) (bg_dX6_stand_77 3 0 rfl) (bg_dX6_stand_77 4 159 rfl)
theorem dX6_stand_82 : decode cX6_stand 82 = .ok (.iload 5, 2) := o_21 (bg_dX6_stand_77 5 21 rfl) (bg_dX6_stand_77 6 5 rfl)
theorem dX6_stand_84 : decode cX6_stand 84 = .ok (.if_icmp .ne 5, 3) := o_160 (bg_dX6_stand_77 7 160 rfl) (bg_dX6_stand_77 8 0 rfl) (bg_dX6_stand_77 9 5 rfl) (by decide +kernel)
theorem dX6_stand_87 : decode cX6_stand 87 = .ok (.iconst 0, 1) := o_3 (bg_dX6_stand_77 10 3 rfl)
theorem dX6_stand_88 : decode cX6_stand 88 = .ok (.ireturn, 1) := o_172 (bg_dX6_stand_77 11 172 rfl)
theorem dX6_stand_89 : decode cX6_stand 89 = .ok (.aload_n 0, 1) := o_42 (bg_dX6_stand_77 12 42 rfl)
theorem dX6_stand_90 : decode cX6_stand 90 = .ok (.getfield 10, 3) := o_180 (bg_dX6_stand_77 13 180 rfl) (bg_dX6_stand_77 14 0 rfl) (bg_dX6_stand_77 15 10 rfl)
theorem dX6_stand_93 : decode cX6_stand 93 = .ok (.iload_n 1, 1) := o_27 (bg_dX6_stand_77 16 27 rfl)
theorem dX6_stand_94 : decode cX6_stand 94 = .ok (.iload 4, 2) := o_21 (bg_dX6_stand_77 17 21 rfl) (bg_dX6_stand_77 18 4 rfl)
theorem dX6_stand_96 : decode cX6_stand 96 = .ok (.iload 5, 2) := o_21 (bg_dX6_stand_77 19 21 rfl) (bg_dX6_stand_77 20 5 rfl)
theorem dX6_stand_98 : decode cX6_stand 98 = .ok (.invokevirtual 162, 3) := o_182 (bg_dX6_stand_77 21 182 rfl) (bg_dX6_stand_77 22 0 rfl) (bg_dX6_stand_77 23 162 rfl)
theorem dX6_stand_101 : decode cX6_stand 101 = .ok (.iconst 1, 1) := o_4 (bg_dX6_stand_77 24 4 rfl)
theorem dX6_stand_102 : decode cX6_stand 102 = .ok (.ireturn, 1) := o_172 (bg_dX6_stand_77 25 172 rfl)
theorem bg_dX6_strain_0 : bysAt cX6_strain 0 [42, 27, 28, 182, 0, 200, 153, 0, 11, 42, 29, 182, 0, 112, 154, 0, 10, 42, 16, 254, 182, 0, 70, 172, 42] := bysAt_of (by decide +kernel)
theorem dX6_strain_0 : decode cX6_strain 0 = .ok (.aload_n 0, 1) := o_42 (bg_dX6_strain_0 0 42 rfl)
theorem dX6_strain_1 : decode cX6_strain 1 = .ok (.iload_n 1, 1) := o_27 (bg_dX6_strain_0 1 27 rfl)
theorem dX6_strain_2 : decode cX6_strain 2 = .ok (.iload_n 2, 1) := o_28 (bg_dX6_strain_0 2 28 rfl)
theorem dX6_strain_3 : decode cX6_strain 3 = .ok (.invokevirtual 200, 3) := o_182 (bg_dX6_strain_0 3 182 rfl) (bg_dX6_strain_0 4 0 rfl) (bg_dX6_strain_0 5 200 rfl)
theorem dX6_strain_6 : decode cX6_strain 6 = .ok (.ifCond .eq 11, 3) := o_153 (bg_dX6_strain_0 6 153 rfl) (bg_dX6_strain_0 7 0 rfl) (bg_dX6_strain_0 8 11 rfl) (by decide +kernel)
theorem dX6_strain_9 : decode cX6_strain 9 = .ok (.aload_n 0, 1) := o_42 (bg_dX6_strain_0 9 42 rfl)
theorem dX6_strain_10 : decode cX6_strain 10 = .ok (.iload_n 3, 1) := o_29 (bg_dX6_strain_0 10 29 rfl)
theorem dX6_strain_11 : decode cX6_strain 11 = .ok (.invokevirtual 112, 3) := o_182 (bg_dX6_strain_0 11 182 rfl) (bg_dX6_strain_0 12 0 rfl) (bg_dX6_strain_0 13 112 rfl)
theorem dX6_strain_14 : decode cX6_strain 14 = .ok (.ifCond .ne 10, 3) := o_154 (bg_dX6_strain_0 14 154 rfl) (bg_dX6_strain_0 15 0 rfl) (bg_dX6_strain_0 16 10 rfl) (by decide +kernel)
theorem dX6_strain_17 : decode cX6_strain 17 = .ok (.aload_n 0, 1) := o_42 (bg_dX6_strain_0 17 42 rfl)
theorem dX6_strain_18 : decode cX6_strain 18 = .ok (.bipush (-2), 2) := o_16 (bg_dX6_strain_0 18 16 rfl) (bg_dX6_strain_0 19 254 rfl) (by decide +kernel)
theorem dX6_strain_20 : decode cX6_strain 20 = .ok (.invokevirtual 70, 3) := o_182 (bg_dX6_strain_0 20 182 rfl) (bg_dX6_strain_0 21 0 rfl) (bg_dX6_strain_0 22 70 rfl)
theorem dX6_strain_23 : decode cX6_strain 23 = .ok (.ireturn, 1) := o_172 (bg_dX6_strain_0 23 172 rfl)
theorem dX6_strain_24 : decode cX6_strain 24 = .ok (.aload_n 0, 1) := o_42 (bg_dX6_strain_0 24 42 rfl)
theorem bg_dX6_strain_25 : bysAt cX6_strain 25 [180, 0, 28, 180, 0, 203, 42, 180, 0, 10, 27, 28, 182, 0, 207, 42, 180, 0, 28, 180, 0, 203, 42, 180, 0, 10, 29, 5] := bysAt_of (by decide +kernel)
theorem dX6_strain_25 : decode cX6_strain 25 = .ok (.getfield 28, 3) := o_180 (bg_dX6_strain_25 0 180 rfl) (bg_dX6_strain_25 1 0 rfl) (bg_dX6_strain_25 2 28 rfl)
theorem dX6_strain_28 : decode cX6_strain 28 = .ok (.getfield 203, 3) := o_180 (bg_dX6_strain_25 3 180 rfl) (bg_dX6_strain_25 4 0 rfl) (bg_dX6_strain_25 5 203 rfl)
theorem dX6_strain_31 : decode cX6_strain 31 = .ok (.aload_n 0, 1) := o_42 (bg_dX6_strain_25 6 42 rfl)
theorem dX6_strain_32 : decode cX6_strain 32 = .ok (.getfield 10, 3) := o_180 (bg_dX6_strain_25 7 180 rfl) (bg_dX6_strain_25 8 0 rfl) (bg_dX6_strain_25 9 10 rfl)
theorem dX6_strain_35 : decode cX6_strain 35 = .ok (.iload_n 1, 1) := o_27 (bg_dX6_strain_25 10 27 rfl)
theorem dX6_strain_36 : decode cX6_strain 36 = .ok (.iload_n 2, 1) := o_28 (bg_dX6_strain_25 11 28 rfl)
theorem dX6_strain_37 : decode cX6_strain 37 = .ok (.invokevirtual 207, 3) := o_182 (bg_dX6_strain_25 12 182 rfl) (bg_dX6_strain_25 13 0 rfl) (bg_dX6_strain_25 14 207 rfl)
theorem dX6_strain_40 : decode cX6_strain 40 = .ok (.aload_n 0, 1) := o_42 (bg_dX6_strain_25 15 42 rfl)
theorem dX6_strain_41 : decode cX6_strain 41 = .ok (.getfield 28, 3) := o_180 (bg_dX6_strain_25 16 180 rfl) (bg_dX6_strain_25 17 0 rfl) (bg_dX6_strain_25 18 28 rfl)
theorem dX6_strain_44 : decode cX6_strain 44 = .ok (.getfield 203, 3) := o_180 (bg_dX6_strain_25 19 180 rfl) (bg_dX6_strain_25 20 0 rfl) (bg_dX6_strain_25 21 203 rfl)
theorem dX6_strain_47 : decode cX6_strain 47 = .ok (.aload_n 0, 1) := o_42 (bg_dX6_strain_25 22 42 rfl)
theorem dX6_strain_48 : decode cX6_strain 48 = .ok (.getfield 10, 3) := o_180 (bg_dX6_strain_25 23 180 rfl) (bg_dX6_strain_25 24 0 rfl) (bg_dX6_strain_25 25 10 rfl)
theorem dX6_strain_51 : decode cX6_strain 51 = .ok (.iload_n 3, 1) := o_29 (bg_dX6_strain_25 26 29 rfl)
theorem dX6_strain_52 : decode cX6_strain 52 = .ok (.iconst 2, 1) := o_5 (bg_dX6_strain_25 27 5 rfl)
theorem bg_dX6_strain_53 : bysAt cX6_strain 53 [182, 0, 159, 182, 0, 216, 172] := bysAt_of (by decide +kernel)
theorem dX6_strain_53 : decode cX6_strain 53 = .ok (.invokevirtual 159, 3) := o_182 (bg_dX6_strain_53 0 182 rfl) (bg_dX6_strain_53 1 0 rfl) (bg_dX6_strain_53 2 159 rfl)
theorem dX6_strain_56 : decode cX6_strain 56 = .ok (.invokevirtual 216, 3) := o_182 (bg_dX6_strain_53 3 182 rfl) (bg_dX6_strain_53 4 0 rfl) (bg_dX6_strain_53 5 216 rfl)
theorem dX6_strain_59 : decode cX6_strain 59 = .ok (.ireturn, 1) := o_172 (bg_dX6_strain_53 6 172 rfl)
theorem bg_dX6_waggon_0 : bysAt cX6_waggon 0 [27, 5, 16, 12, 184, 0, 66, 153, 0, 23, 28, 4, 16, 9, 184, 0, 66, 153, 0, 13, 29, 3, 16, 99, 184, 0, 66] := bysAt_of (by decide +kernel)
theorem dX6_waggon_0 : decode cX6_waggon 0 = .ok (.iload_n 1, 1) := o_27 (bg_dX6_waggon_0 0 27 rfl)
theorem dX6_waggon_1 : decode cX6_waggon 1 = .ok (.iconst 2, 1) := o_5 (bg_dX6_waggon_0 1 5 rfl)
theorem dX6_waggon_2 : decode cX6_waggon 2 = .ok (.bipush 12, 2) := o_16 (bg_dX6_waggon_0 2 16 rfl) (bg_dX6_waggon_0 3 12 rfl) (by decide +kernel)
theorem dX6_waggon_4 : decode cX6_waggon 4 = .ok (.invokestatic 66, 3) := o_184 (bg_dX6_waggon_0 4 184 rfl) (bg_dX6_waggon_0 5 0 rfl) (bg_dX6_waggon_0 6 66 rfl)
theorem dX6_waggon_7 : decode cX6_waggon 7 = .ok (.ifCond .eq 23, 3) := o_153 (bg_dX6_waggon_0 7 153 rfl) (bg_dX6_waggon_0 8 0 rfl) (bg_dX6_waggon_0 9 23 rfl) (by decide +kernel)
theorem dX6_waggon_10 : decode cX6_waggon 10 = .ok (.iload_n 2, 1) := o_28 (bg_dX6_waggon_0 10 28 rfl)
theorem dX6_waggon_11 : decode cX6_waggon 11 = .ok (.iconst 1, 1) := o_4 (bg_dX6_waggon_0 11 4 rfl)
theorem dX6_waggon_12 : decode cX6_waggon 12 = .ok (.bipush 9, 2) := o_16 (bg_dX6_waggon_0 12 16 rfl) (bg_dX6_waggon_0 13 9 rfl) (by decide +kernel)
theorem dX6_waggon_14 : decode cX6_waggon 14 = .ok (.invokestatic 66, 3) := o_184 (bg_dX6_waggon_0 14 184 rfl) (bg_dX6_waggon_0 15 0 rfl) (bg_dX6_waggon_0 16 66 rfl)
theorem dX6_waggon_17 : decode cX6_waggon 17 = .ok (.ifCond .eq 13, 3) := o_153 (bg_dX6_waggon_0 17 153 rfl) (bg_dX6_waggon_0 18 0 rfl) (bg_dX6_waggon_0 19 13 rfl) (by decide +kernel)
theorem dX6_waggon_20 : decode cX6_waggon 20 = .ok (.iload_n 3, 1) := o_29 (bg_dX6_waggon_0 20 29 rfl)
theorem dX6_waggon_21 : decode cX6_waggon 21 = .ok (.iconst 0, 1) := o_3 (bg_dX6_waggon_0 21 3 rfl)
theorem dX6_waggon_22 : decode cX6_waggon 22 = .ok (.bipush 99, 2) := o_16 (bg_dX6_waggon_0 22 16 rfl) (bg_dX6_waggon_0 23 99 rfl) (by decide +kernel)
theorem dX6_waggon_24 : decode cX6_waggon 24 = .ok (.invokestatic 66, 3) := o_184 (bg_dX6_waggon_0 24 184 rfl) (bg_dX6_waggon_0 25 0 rfl) (bg_dX6_waggon_0 26 66 rfl)
theorem bg_dX6_waggon_27 : bysAt cX6_waggon 27 [154, 0, 10, 42, 16, 254, 182, 0, 70, 172, 42, 180, 0, 10, 5, 182, 0, 129, 154, 0, 10, 42, 16, 250, 182, 0, 70, 172] := bysAt_of (by decide +kernel)
theorem dX6_waggon_27 : decode cX6_waggon 27 = .ok (.ifCond .ne 10, 3) := o_154 (bg_dX6_waggon_27 0 154 rfl) (bg_dX6_waggon_27 1 0 rfl) (bg_dX6_waggon_27 2 10 rfl) (by decide +kernel)
theorem dX6_waggon_30 : decode cX6_waggon 30 = .ok (.aload_n 0, 1) := o_42 (bg_dX6_waggon_27 3 42 rfl)
theorem dX6_waggon_31 : decode cX6_waggon 31 = .ok (.bipush (-2), 2) := o_16 (bg_dX6_waggon_27 4 16 rfl) (bg_dX6_waggon_27 5 254 rfl) (by decide +kernel)
theorem dX6_waggon_33 : decode cX6_waggon 33 = .ok (.invokevirtual 70, 3) := o_182 (bg_dX6_waggon_27 6 182 rfl) (bg_dX6_waggon_27 7 0 rfl) (bg_dX6_waggon_27 8 70 rfl)
theorem dX6_waggon_36 : decode cX6_waggon 36 = .ok (.ireturn, 1) := o_172 (bg_dX6_waggon_27 9 172 rfl)
theorem dX6_waggon_37 : decode cX6_waggon 37 = .ok (.aload_n 0, 1) := o_42 (bg_dX6_waggon_27 10 42 rfl)
theorem dX6_waggon_38 : decode cX6_waggon 38 = .ok (.getfield 10, 3) := o_180 (bg_dX6_waggon_27 11 180 rfl) (bg_dX6_waggon_27 12 0 rfl) (bg_dX6_waggon_27 13 10 rfl)
theorem dX6_waggon_41 : decode cX6_waggon 41 = .ok (.iconst 2, 1) := o_5 (bg_dX6_waggon_27 14 5 rfl)
theorem dX6_waggon_42 : decode cX6_waggon 42 = .ok (.invokevirtual 129, 3) := o_182 (bg_dX6_waggon_27 15 182 rfl) (bg_dX6_waggon_27 16 0 rfl) (bg_dX6_waggon_27 17 129 rfl)
theorem dX6_waggon_45 : decode cX6_waggon 45 = .ok (.ifCond .ne 10, 3) := o_154 (bg_dX6_waggon_27 18 154 rfl) (bg_dX6_waggon_27 19 0 rfl) (bg_dX6_waggon_27 20 10 rfl) (by decide +kernel)
theorem dX6_waggon_48 : decode cX6_waggon 48 = .ok (.aload_n 0, 1) := o_42 (bg_dX6_waggon_27 21 42 rfl)
theorem dX6_waggon_49 : decode cX6_waggon 49 = .ok (.bipush (-6), 2) := o_16 (bg_dX6_waggon_27 22 16 rfl) (bg_dX6_waggon_27 23 250 rfl) (by decide +kernel)
theorem dX6_waggon_51 : decode cX6_waggon 51 = .ok (.invokevirtual 70, 3) := o_182 (bg_dX6_waggon_27 24 182 rfl) (bg_dX6_waggon_27 25 0 rfl) (bg_dX6_waggon_27 26 70 rfl)
theorem dX6_waggon_54 : decode cX6_waggon 54 = .ok (.ireturn, 1) := o_172 (bg_dX6_waggon_27 27 172 rfl)
theorem bg_dX6_waggon_55 : bysAt cX6_waggon 55 [42, 180, 0, 10, 27, 28, 29, 182, 0, 146, 172] := bysAt_of (by decide +kernel)
theorem dX6_waggon_55 : decode cX6_waggon 55 = .ok (.aload_n 0, 1) := o_42 (bg_dX6_waggon_55 0 42 rfl)
theorem dX6_waggon_56 : decode cX6_waggon 56 = .ok (.getfield 10, 3) := o_180 (bg_dX6_waggon_55 1 180 rfl) (bg_dX6_waggon_55 2 0 rfl) (bg_dX6_waggon_55 3 10 rfl)
theorem dX6_waggon_59 : decode cX6_waggon 59 = .ok (.iload_n 1, 1) := o_27 (bg_dX6_waggon_55 4 27 rfl)
theorem dX6_waggon_60 : decode cX6_waggon 60 = .ok (.iload_n 2, 1) := o_28 (bg_dX6_waggon_55 5 28 rfl)
theorem dX6_waggon_61 : decode cX6_waggon 61 = .ok (.iload_n 3, 1) := o_29 (bg_dX6_waggon_55 6 29 rfl)
theorem dX6_waggon_62 : decode cX6_waggon 62 = .ok (.invokevirtual 146, 3) := o_182 (bg_dX6_waggon_55 7 182 rfl) (bg_dX6_waggon_55 8 0 rfl) (bg_dX6_waggon_55 9 146 rfl)
theorem dX6_waggon_65 : decode cX6_waggon 65 = .ok (.ireturn, 1) := o_172 (bg_dX6_waggon_55 10 172 rfl)
theorem bg_dX6_wipe_0 : bysAt cX6_wipe 0 [42, 180, 0, 42, 180, 0, 171, 60, 42, 180, 0, 42, 3, 181, 0, 171, 27, 172] := bysAt_of (by decide +kernel)
theorem dX6_wipe_0 : decode cX6_wipe 0 = .ok (.aload_n 0, 1) := o_42 (bg_dX6_wipe_0 0 42 rfl)
theorem dX6_wipe_1 : decode cX6_wipe 1 = .ok (.getfield 42, 3) := o_180 (bg_dX6_wipe_0 1 180 rfl) (bg_dX6_wipe_0 2 0 rfl) (bg_dX6_wipe_0 3 42 rfl)
theorem dX6_wipe_4 : decode cX6_wipe 4 = .ok (.getfield 171, 3) := o_180 (bg_dX6_wipe_0 4 180 rfl) (bg_dX6_wipe_0 5 0 rfl) (bg_dX6_wipe_0 6 171 rfl)
theorem dX6_wipe_7 : decode cX6_wipe 7 = .ok (.istore_n 1, 1) := o_60 (bg_dX6_wipe_0 7 60 rfl)
theorem dX6_wipe_8 : decode cX6_wipe 8 = .ok (.aload_n 0, 1) := o_42 (bg_dX6_wipe_0 8 42 rfl)
theorem dX6_wipe_9 : decode cX6_wipe 9 = .ok (.getfield 42, 3) := o_180 (bg_dX6_wipe_0 9 180 rfl) (bg_dX6_wipe_0 10 0 rfl) (bg_dX6_wipe_0 11 42 rfl)
theorem dX6_wipe_12 : decode cX6_wipe 12 = .ok (.iconst 0, 1) := o_3 (bg_dX6_wipe_0 12 3 rfl)
theorem dX6_wipe_13 : decode cX6_wipe 13 = .ok (.putfield 171, 3) := o_181 (bg_dX6_wipe_0 13 181 rfl) (bg_dX6_wipe_0 14 0 rfl) (bg_dX6_wipe_0 15 171 rfl)
theorem dX6_wipe_16 : decode cX6_wipe 16 = .ok (.iload_n 1, 1) := o_27 (bg_dX6_wipe_0 16 27 rfl)
theorem dX6_wipe_17 : decode cX6_wipe 17 = .ok (.ireturn, 1) := o_172 (bg_dX6_wipe_0 17 172 rfl)
theorem pdVX0_addBridge : yX0_addBridge.cls = RX0 ∧ yX0_addBridge.cls ≠ "java/lang/invoke/MethodHandle" ∧ yX0_addBridge.cls ≠ "java/lang/invoke/VarHandle" ∧ (parseMethodDescriptor yX0_addBridge.desc).map (fun d => d.parameters.length) = some 5 := by decide +kernel
theorem pdVX0_addPart : yX0_addPart.cls = RX0 ∧ yX0_addPart.cls ≠ "java/lang/invoke/MethodHandle" ∧ yX0_addPart.cls ≠ "java/lang/invoke/VarHandle" ∧ (parseMethodDescriptor yX0_addPart.desc).map (fun d => d.parameters.length) = some 2 := by decide +kernel
theorem pdVX0_addRoad : yX0_addRoad.cls = RX0 ∧ yX0_addRoad.cls ≠ "java/lang/invoke/MethodHandle" ∧ yX0_addRoad.cls ≠ "java/lang/invoke/VarHandle" ∧ (parseMethodDescriptor yX0_addRoad.desc).map (fun d => d.parameters.length) = some 6 := by decide +kernel
theorem pdVX0_addWaggon : yX0_addWaggon.cls = RX0 ∧ yX0_addWaggon.cls ≠ "java/lang/invoke/MethodHandle" ∧ yX0_addWaggon.cls ≠ "java/lang/invoke/VarHandle" ∧ (parseMethodDescriptor yX0_addWaggon.desc).map (fun d => d.parameters.length) = some 3 := by decide +kernel
theorem pdVX0_hasRoom : yX0_hasRoom.cls = RX0 ∧ yX0_hasRoom.cls ≠ "java/lang/invoke/MethodHandle" ∧ yX0_hasRoom.cls ≠ "java/lang/invoke/VarHandle" ∧ (parseMethodDescriptor yX0_hasRoom.desc).map (fun d => d.parameters.length) = some 1 := by decide +kernel
theorem pdVX0_mayBeTakenFor : yX0_mayBeTakenFor.cls = RX0 ∧ yX0_mayBeTakenFor.cls ≠ "java/lang/invoke/MethodHandle" ∧ yX0_mayBeTakenFor.cls ≠ "java/lang/invoke/VarHandle" ∧ (parseMethodDescriptor yX0_mayBeTakenFor.desc).map (fun d => d.parameters.length) = some 2 := by decide +kernel
theorem pdVX0_putProp : yX0_putProp.cls = RX0 ∧ yX0_putProp.cls ≠ "java/lang/invoke/MethodHandle" ∧ yX0_putProp.cls ≠ "java/lang/invoke/VarHandle" ∧ (parseMethodDescriptor yX0_putProp.desc).map (fun d => d.parameters.length) = some 3 := by decide +kernel
theorem pdVX3_copyElements : yX3_copyElements.cls = RX3 ∧ yX3_copyElements.cls ≠ "java/lang/invoke/MethodHandle" ∧ yX3_copyElements.cls ≠ "java/lang/invoke/VarHandle" ∧ (parseMethodDescriptor yX3_copyElements.desc).map (fun d => d.parameters.length) = some 5 := by decide +kernel
theorem pdVX3_holdsUnlikeRows : yX3_holdsUnlikeRows.cls = RX3 ∧ yX3_holdsUnlikeRows.cls ≠ "java/lang/invoke/MethodHandle" ∧ yX3_holdsUnlikeRows.cls ≠ "java/lang/invoke/VarHandle" ∧ (parseMethodDescriptor yX3_holdsUnlikeRows.desc).map (fun d => d.parameters.length) = some 2 := by decide +kernel
theorem pdVX3_putElement : yX3_putElement.cls = RX3 ∧ yX3_putElement.cls ≠ "java/lang/invoke/MethodHandle" ∧ yX3_putElement.cls ≠ "java/lang/invoke/VarHandle" ∧ (parseMethodDescriptor yX3_putElement.desc).map (fun d => d.parameters.length) = some 3 := by decide +kernel
theorem pdVX3_putRow : yX3_putRow.cls = RX3 ∧ yX3_putRow.cls ≠ "java/lang/invoke/MethodHandle" ∧ yX3_putRow.cls ≠ "java/lang/invoke/VarHandle" ∧ (parseMethodDescriptor yX3_putRow.desc).map (fun d => d.parameters.length) = some 3 := by decide +kernel
theorem pdVX6_isBridge : yX6_isBridge.cls = RX6 ∧ yX6_isBridge.cls ≠ "java/lang/invoke/MethodHandle" ∧ yX6_isBridge.cls ≠ "java/lang/invoke/VarHandle" ∧ (parseMethodDescriptor yX6_isBridge.desc).map (fun d => d.parameters.length) = some 1 := by decide +kernel
theorem pdVX6_isRoad : yX6_isRoad.cls = RX6 ∧ yX6_isRoad.cls ≠ "java/lang/invoke/MethodHandle" ∧ yX6_isRoad.cls ≠ "java/lang/invoke/VarHandle" ∧ (parseMethodDescriptor yX6_isRoad.desc).map (fun d => d.parameters.length) = some 1 := by decide +kernel
theorem pdVX6_spoken : yX6_spoken.cls = RX6 ∧ yX6_spoken.cls ≠ "java/lang/invoke/MethodHandle" ∧ yX6_spoken.cls ≠ "java/lang/invoke/VarHandle" ∧ (parseMethodDescriptor yX6_spoken.desc).map (fun d => d.parameters.length) = some 2 := by decide +kernel
