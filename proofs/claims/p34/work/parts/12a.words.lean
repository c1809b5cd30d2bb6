theorem bg_dX5_coinOf_0 : bysAt cX5_coinOf 0 [28, 42, 180, 0, 9, 180, 0, 68, 4, 46, 104, 42, 180, 0, 9, 27, 5, 182, 0, 50, 104, 42] := bysAt_of (by decide +kernel)
theorem dX5_coinOf_0 : decode cX5_coinOf 0 = .ok (.iload_n 2, 1) := o_28 (bg_dX5_coinOf_0 0 28 rfl)
theorem dX5_coinOf_1 : decode cX5_coinOf 1 = .ok (.aload_n 0, 1) := o_42 (bg_dX5_coinOf_0 1 42 rfl)
theorem dX5_coinOf_2 : decode cX5_coinOf 2 = .ok (.getfield 9, 3) := o_180 (bg_dX5_coinOf_0 2 180 rfl) (bg_dX5_coinOf_0 3 0 rfl) (bg_dX5_coinOf_0 4 9 rfl)
theorem dX5_coinOf_5 : decode cX5_coinOf 5 = .ok (.getfield 68, 3) := o_180 (bg_dX5_coinOf_0 5 180 rfl) (bg_dX5_coinOf_0 6 0 rfl) (bg_dX5_coinOf_0 7 68 rfl)
theorem dX5_coinOf_8 : decode cX5_coinOf 8 = .ok (.iconst 1, 1) := o_4 (bg_dX5_coinOf_0 8 4 rfl)
theorem dX5_coinOf_9 : decode cX5_coinOf 9 = .ok (.iaload, 1) := o_46 (bg_dX5_coinOf_0 9 46 rfl)
theorem dX5_coinOf_10 : decode cX5_coinOf 10 = .ok (.imul, 1) := o_104 (bg_dX5_coinOf_0 10 104 rfl)
theorem dX5_coinOf_11 : decode cX5_coinOf 11 = .ok (.aload_n 0, 1) := o_42 (bg_dX5_coinOf_0 11 42 rfl)
theorem dX5_coinOf_12 : decode cX5_coinOf 12 = .ok (.getfield 9, 3) := o_180 (bg_dX5_coinOf_0 12 180 rfl) (bg_dX5_coinOf_0 13 0 rfl) (bg_dX5_coinOf_0 14 9 rfl)
theorem dX5_coinOf_15 : decode cX5_coinOf 15 = .ok (.iload_n 1, 1) := o_27 (bg_dX5_coinOf_0 15 27 rfl)
theorem dX5_coinOf_16 : decode cX5_coinOf 16 = .ok (.iconst 2, 1) := o_5 (bg_dX5_coinOf_0 16 5 rfl)
theorem dX5_coinOf_17 : decode cX5_coinOf 17 = .ok (.invokevirtual 50, 3) := o_182 (bg_dX5_coinOf_0 17 182 rfl) (bg_dX5_coinOf_0 18 0 rfl) (bg_dX5_coinOf_0 19 50 rfl)
theorem dX5_coinOf_20 : decode cX5_coinOf 20 = .ok (.imul, 1) := o_104 (bg_dX5_coinOf_0 20 104 rfl)
theorem dX5_coinOf_21 : decode cX5_coinOf 21 = .ok (.aload_n 0, 1) := o_42 (bg_dX5_coinOf_0 21 42 rfl)
theorem bg_dX5_coinOf_22 : bysAt cX5_coinOf 22 [27, 182, 0, 71, 104, 42, 180, 0, 29, 27, 46, 96, 172] := bysAt_of (by decide +kernel)
theorem dX5_coinOf_22 : decode cX5_coinOf 22 = .ok (.iload_n 1, 1) := o_27 (bg_dX5_coinOf_22 0 27 rfl)
theorem dX5_coinOf_23 : decode cX5_coinOf 23 = .ok (.invokevirtual 71, 3) := o_182 (bg_dX5_coinOf_22 1 182 rfl) (bg_dX5_coinOf_22 2 0 rfl) (bg_dX5_coinOf_22 3 71 rfl)
theorem dX5_coinOf_26 : decode cX5_coinOf 26 = .ok (.imul, 1) := o_104 (bg_dX5_coinOf_22 4 104 rfl)
theorem dX5_coinOf_27 : decode cX5_coinOf 27 = .ok (.aload_n 0, 1) := o_42 (bg_dX5_coinOf_22 5 42 rfl)
theorem dX5_coinOf_28 : decode cX5_coinOf 28 = .ok (.getfield 29, 3) := o_180 (bg_dX5_coinOf_22 6 180 rfl) (bg_dX5_coinOf_22 7 0 rfl) (bg_dX5_coinOf_22 8 29 rfl)
theorem dX5_coinOf_31 : decode cX5_coinOf 31 = .ok (.iload_n 1, 1) := o_27 (bg_dX5_coinOf_22 9 27 rfl)
theorem dX5_coinOf_32 : decode cX5_coinOf 32 = .ok (.iaload, 1) := o_46 (bg_dX5_coinOf_22 10 46 rfl)
theorem dX5_coinOf_33 : decode cX5_coinOf 33 = .ok (.iadd, 1) := o_96 (bg_dX5_coinOf_22 11 96 rfl)
theorem dX5_coinOf_34 : decode cX5_coinOf 34 = .ok (.ireturn, 1) := o_172 (bg_dX5_coinOf_22 12 172 rfl)
theorem bg_dX5_daysOf_0 : bysAt cX5_daysOf 0 [42, 180, 0, 9, 27, 5, 182, 0, 50, 16, 10, 184, 0, 75, 6, 42, 180, 0, 26, 27, 46, 104, 96] := bysAt_of (by decide +kernel)
theorem dX5_daysOf_0 : decode cX5_daysOf 0 = .ok (.aload_n 0, 1) := o_42 (bg_dX5_daysOf_0 0 42 rfl)
theorem dX5_daysOf_1 : decode cX5_daysOf 1 = .ok (.getfield 9, 3) := o_180 (bg_dX5_daysOf_0 1 180 rfl) (bg_dX5_daysOf_0 2 0 rfl) (bg_dX5_daysOf_0 3 9 rfl)
theorem dX5_daysOf_4 : decode cX5_daysOf 4 = .ok (.iload_n 1, 1) := o_27 (bg_dX5_daysOf_0 4 27 rfl)
theorem dX5_daysOf_5 : decode cX5_daysOf 5 = .ok (.iconst 2, 1) := o_5 (bg_dX5_daysOf_0 5 5 rfl)
theorem dX5_daysOf_6 : decode cX5_daysOf 6 = .ok (.invokevirtual 50, 3) := o_182 (bg_dX5_daysOf_0 6 182 rfl) (bg_dX5_daysOf_0 7 0 rfl) (bg_dX5_daysOf_0 8 50 rfl)
theorem dX5_daysOf_9 : decode cX5_daysOf 9 = .ok (.bipush 10, 2) := o_16 (bg_dX5_daysOf_0 9 16 rfl) (bg_dX5_daysOf_0 10 10 rfl) (by decide +kernel)
theorem dX5_daysOf_11 : decode cX5_daysOf 11 = .ok (.invokestatic 75, 3) := o_184 (bg_dX5_daysOf_0 11 184 rfl) (bg_dX5_daysOf_0 12 0 rfl) (bg_dX5_daysOf_0 13 75 rfl)
theorem dX5_daysOf_14 : decode cX5_daysOf 14 = .ok (.iconst 3, 1) := o_6 (bg_dX5_daysOf_0 14 6 rfl)
theorem dX5_daysOf_15 : decode cX5_daysOf 15 = .ok (.aload_n 0, 1) := o_42 (bg_dX5_daysOf_0 15 42 rfl)
theorem dX5_daysOf_16 : decode cX5_daysOf 16 = .ok (.getfield 26, 3) := o_180 (bg_dX5_daysOf_0 16 180 rfl) (bg_dX5_daysOf_0 17 0 rfl) (bg_dX5_daysOf_0 18 26 rfl)
theorem dX5_daysOf_19 : decode cX5_daysOf 19 = .ok (.iload_n 1, 1) := o_27 (bg_dX5_daysOf_0 19 27 rfl)
theorem dX5_daysOf_20 : decode cX5_daysOf 20 = .ok (.iaload, 1) := o_46 (bg_dX5_daysOf_0 20 46 rfl)
theorem dX5_daysOf_21 : decode cX5_daysOf 21 = .ok (.imul, 1) := o_104 (bg_dX5_daysOf_0 21 104 rfl)
theorem dX5_daysOf_22 : decode cX5_daysOf 22 = .ok (.iadd, 1) := o_96 (bg_dX5_daysOf_0 22 96 rfl)
theorem bg_dX5_daysOf_23 : bysAt cX5_daysOf 23 [172] := bysAt_of (by decide +kernel)
theorem dX5_daysOf_23 : decode cX5_daysOf 23 = .ok (.ireturn, 1) := o_172 (bg_dX5_daysOf_23 0 172 rfl)
theorem bg_dX5_engines_0 : bysAt cX5_engines 0 [4, 42, 180, 0, 9, 27, 6, 182, 0, 50, 42, 180, 0, 18, 180, 0, 65, 104, 16, 100, 108, 96, 172] := bysAt_of (by decide +kernel)
theorem dX5_engines_0 : decode cX5_engines 0 = .ok (.iconst 1, 1) := o_4 (bg_dX5_engines_0 0 4 rfl)
theorem dX5_engines_1 : decode cX5_engines 1 = .ok (.aload_n 0, 1) := o_42 (bg_dX5_engines_0 1 42 rfl)
theorem dX5_engines_2 : decode cX5_engines 2 = .ok (.getfield 9, 3) := o_180 (bg_dX5_engines_0 2 180 rfl) (bg_dX5_engines_0 3 0 rfl) (bg_dX5_engines_0 4 9 rfl)
theorem dX5_engines_5 : decode cX5_engines 5 = .ok (.iload_n 1, 1) := o_27 (bg_dX5_engines_0 5 27 rfl)
theorem dX5_engines_6 : decode cX5_engines 6 = .ok (.iconst 3, 1) := o_6 (bg_dX5_engines_0 6 6 rfl)
theorem dX5_engines_7 : decode cX5_engines 7 = .ok (.invokevirtual 50, 3) := o_182 (bg_dX5_engines_0 7 182 rfl) (bg_dX5_engines_0 8 0 rfl) (bg_dX5_engines_0 9 50 rfl)
theorem dX5_engines_10 : decode cX5_engines 10 = .ok (.aload_n 0, 1) := o_42 (bg_dX5_engines_0 10 42 rfl)
theorem dX5_engines_11 : decode cX5_engines 11 = .ok (.getfield 18, 3) := o_180 (bg_dX5_engines_0 11 180 rfl) (bg_dX5_engines_0 12 0 rfl) (bg_dX5_engines_0 13 18 rfl)
theorem dX5_engines_14 : decode cX5_engines 14 = .ok (.getfield 65, 3) := o_180 (bg_dX5_engines_0 14 180 rfl) (bg_dX5_engines_0 15 0 rfl) (bg_dX5_engines_0 16 65 rfl)
theorem dX5_engines_17 : decode cX5_engines 17 = .ok (.imul, 1) := o_104 (bg_dX5_engines_0 17 104 rfl)
theorem dX5_engines_18 : decode cX5_engines 18 = .ok (.bipush 100, 2) := o_16 (bg_dX5_engines_0 18 16 rfl) (bg_dX5_engines_0 19 100 rfl) (by decide +kernel)
theorem dX5_engines_20 : decode cX5_engines 20 = .ok (.idiv, 1) := o_108 (bg_dX5_engines_0 20 108 rfl)
theorem dX5_engines_21 : decode cX5_engines 21 = .ok (.iadd, 1) := o_96 (bg_dX5_engines_0 21 96 rfl)
theorem dX5_engines_22 : decode cX5_engines 22 = .ok (.ireturn, 1) := o_172 (bg_dX5_engines_0 22 172 rfl)
theorem bg_dX5_firstRoad_0 : bysAt cX5_firstRoad 0 [42, 27, 28, 182, 0, 78, 42, 4, 182, 0, 82, 42, 21, 4, 182, 0, 86, 3, 54, 5, 21, 5, 42] := bysAt_of (by decide +kernel)
theorem dX5_firstRoad_0 : decode cX5_firstRoad 0 = .ok (.aload_n 0, 1) := o_42 (bg_dX5_firstRoad_0 0 42 rfl)
theorem dX5_firstRoad_1 : decode cX5_firstRoad 1 = .ok (.iload_n 1, 1) := o_27 (bg_dX5_firstRoad_0 1 27 rfl)
theorem dX5_firstRoad_2 : decode cX5_firstRoad 2 = .ok (.iload_n 2, 1) := o_28 (bg_dX5_firstRoad_0 2 28 rfl)
theorem dX5_firstRoad_3 : decode cX5_firstRoad 3 = .ok (.invokevirtual 78, 3) := o_182 (bg_dX5_firstRoad_0 3 182 rfl) (bg_dX5_firstRoad_0 4 0 rfl) (bg_dX5_firstRoad_0 5 78 rfl)
theorem dX5_firstRoad_6 : decode cX5_firstRoad 6 = .ok (.aload_n 0, 1) := o_42 (bg_dX5_firstRoad_0 6 42 rfl)
theorem dX5_firstRoad_7 : decode cX5_firstRoad 7 = .ok (.iconst 1, 1) := o_4 (bg_dX5_firstRoad_0 7 4 rfl)
theorem dX5_firstRoad_8 : decode cX5_firstRoad 8 = .ok (.invokevirtual 82, 3) := o_182 (bg_dX5_firstRoad_0 8 182 rfl) (bg_dX5_firstRoad_0 9 0 rfl) (bg_dX5_firstRoad_0 10 82 rfl)
theorem dX5_firstRoad_11 : decode cX5_firstRoad 11 = .ok (.aload_n 0, 1) := o_42 (bg_dX5_firstRoad_0 11 42 rfl)
theorem dX5_firstRoad_12 : decode cX5_firstRoad 12 = .ok (.iload 4, 2) := o_21 (bg_dX5_firstRoad_0 12 21 rfl) (bg_dX5_firstRoad_0 13 4 rfl)
theorem dX5_firstRoad_14 : decode cX5_firstRoad 14 = .ok (.invokevirtual 86, 3) := o_182 (bg_dX5_firstRoad_0 14 182 rfl) (bg_dX5_firstRoad_0 15 0 rfl) (bg_dX5_firstRoad_0 16 86 rfl)
theorem dX5_firstRoad_17 : decode cX5_firstRoad 17 = .ok (.iconst 0, 1) := o_3 (bg_dX5_firstRoad_0 17 3 rfl)
theorem dX5_firstRoad_18 : decode cX5_firstRoad 18 = .ok (.istore 5, 2) := o_54 (bg_dX5_firstRoad_0 18 54 rfl) (bg_dX5_firstRoad_0 19 5 rfl)
theorem dX5_firstRoad_20 : decode cX5_firstRoad 20 = .ok (.iload 5, 2) := o_21 (bg_dX5_firstRoad_0 20 21 rfl) (bg_dX5_firstRoad_0 21 5 rfl)
theorem dX5_firstRoad_22 : decode cX5_firstRoad 22 = .ok (.aload_n 0, 1) := o_42 (bg_dX5_firstRoad_0 22 42 rfl)
theorem bg_dX5_firstRoad_23 : bysAt cX5_firstRoad 23 [180, 0, 9, 180, 0, 45, 3, 46, 162, 0, 74, 42, 21, 5, 29, 182, 0, 103, 54, 6, 42, 180, 0, 26, 21, 5, 46] := bysAt_of (by decide +kernel)
theorem dX5_firstRoad_23 : decode cX5_firstRoad 23 = .ok (.getfield 9, 3) := o_180 (bg_dX5_firstRoad_23 0 180 rfl) (bg_dX5_firstRoad_23 1 0 rfl) (bg_dX5_firstRoad_23 2 9 rfl)
theorem dX5_firstRoad_26 : decode cX5_firstRoad 26 = .ok (.getfield 45, 3) := o_180 (bg_dX5_firstRoad_23 3 180 rfl) (bg_dX5_firstRoad_23 4 0 rfl) (bg_dX5_firstRoad_23 5 45 rfl)
theorem dX5_firstRoad_29 : decode cX5_firstRoad 29 = .ok (.iconst 0, 1) := o_3 (bg_dX5_firstRoad_23 6 3 rfl)
theorem dX5_firstRoad_30 : decode cX5_firstRoad 30 = .ok (.iaload, 1) := o_46 (bg_dX5_firstRoad_23 7 46 rfl)
theorem dX5_firstRoad_31 : decode cX5_firstRoad 31 = .ok (.if_icmp .ge 74, 3) := o_162 (bg_dX5_firstRoad_23 8 162 rfl) (bg_dX5_firstRoad_23 9 0 rfl) (bg_dX5_firstRoad_23 10 74 rfl) (by decide +kernel)
theorem dX5_firstRoad_34 : decode cX5_firstRoad 34 = .ok (.aload_n 0, 1) := o_42 (bg_dX5_firstRoad_23 11 42 rfl)
theorem dX5_firstRoad_35 : decode cX5_firstRoad 35 = .ok (.iload 5, 2) := o_21 (bg_dX5_firstRoad_23 12 21 rfl) (bg_dX5_firstRoad_23 13 5 rfl)
theorem dX5_firstRoad_37 : decode cX5_firstRoad 37 = .ok (.iload_n 3, 1) := o_29 (bg_dX5_firstRoad_23 14 29 rfl)
theorem dX5_firstRoad_38 : decode cX5_firstRoad 38 = .ok (.invokevirtual 103, 3) := o_182 (bg_dX5_firstRoad_23 15 182 rfl) (bg_dX5_firstRoad_23 16 0 rfl) (bg_dX5_firstRoad_23 17 103 rfl)
theorem dX5_firstRoad_41 : decode cX5_firstRoad 41 = .ok (.istore 6, 2) := o_54 (bg_dX5_firstRoad_23 18 54 rfl) (bg_dX5_firstRoad_23 19 6 rfl)
theorem dX5_firstRoad_43 : decode cX5_firstRoad 43 = .ok (.aload_n 0, 1) := o_42 (bg_dX5_firstRoad_23 20 42 rfl)
theorem dX5_firstRoad_44 : decode cX5_firstRoad 44 = .ok (.getfield 26, 3) := o_180 (bg_dX5_firstRoad_23 21 180 rfl) (bg_dX5_firstRoad_23 22 0 rfl) (bg_dX5_firstRoad_23 23 26 rfl)
theorem dX5_firstRoad_47 : decode cX5_firstRoad 47 = .ok (.iload 5, 2) := o_21 (bg_dX5_firstRoad_23 24 21 rfl) (bg_dX5_firstRoad_23 25 5 rfl)
theorem dX5_firstRoad_49 : decode cX5_firstRoad 49 = .ok (.iaload, 1) := o_46 (bg_dX5_firstRoad_23 26 46 rfl)
theorem bg_dX5_firstRoad_50 : bysAt cX5_firstRoad 50 [2, 159, 0, 48, 21, 6, 2, 159, 0, 42, 42, 180, 0, 35, 21, 6, 46, 18, 89, 159, 0, 30, 42, 180, 0, 35, 21, 6] := bysAt_of (by decide +kernel)
theorem dX5_firstRoad_50 : decode cX5_firstRoad 50 = .ok (.iconst (-1), 1) := o_2 (bg_dX5_firstRoad_50 0 2 rfl)
theorem dX5_firstRoad_51 : decode cX5_firstRoad 51 = .ok (.if_icmp .eq 48, 3) := o_159 (bg_dX5_firstRoad_50 1 159 rfl) (bg_dX5_firstRoad_50 2 0 rfl) (bg_dX5_firstRoad_50 3 48 rfl) (by decide +kernel)
theorem dX5_firstRoad_54 : decode cX5_firstRoad 54 = .ok (.iload 6, 2) := o_21 (bg_dX5_firstRoad_50 4 21 rfl) (bg_dX5_firstRoad_50 5 6 rfl)
theorem dX5_firstRoad_56 : decode cX5_firstRoad 56 = .ok (.iconst (-1), 1) := o_2 (bg_dX5_firstRoad_50 6 2 rfl)
theorem dX5_firstRoad_57 : decode cX5_firstRoad 57 = .ok (.if_icmp .eq 42, 3) := o_159 (bg_dX5_firstRoad_50 7 159 rfl) (bg_dX5_firstRoad_50 8 0 rfl) (bg_dX5_firstRoad_50 9 42 rfl) (by decide +kernel)
theorem dX5_firstRoad_60 : decode cX5_firstRoad 60 = .ok (.aload_n 0, 1) := o_42 (bg_dX5_firstRoad_50 10 42 rfl)
theorem dX5_firstRoad_61 : decode cX5_firstRoad 61 = .ok (.getfield 35, 3) := o_180 (bg_dX5_firstRoad_50 11 180 rfl) (bg_dX5_firstRoad_50 12 0 rfl) (bg_dX5_firstRoad_50 13 35 rfl)
theorem dX5_firstRoad_64 : decode cX5_firstRoad 64 = .ok (.iload 6, 2) := o_21 (bg_dX5_firstRoad_50 14 21 rfl) (bg_dX5_firstRoad_50 15 6 rfl)
theorem dX5_firstRoad_66 : decode cX5_firstRoad 66 = .ok (.iaload, 1) := o_46 (bg_dX5_firstRoad_50 16 46 rfl)
theorem dX5_firstRoad_67 : decode cX5_firstRoad 67 = .ok (.ldc 89, 2) := o_18 (bg_dX5_firstRoad_50 17 18 rfl) (bg_dX5_firstRoad_50 18 89 rfl)
theorem dX5_firstRoad_69 : decode cX5_firstRoad 69 = .ok (.if_icmp .eq 30, 3) := o_159 (bg_dX5_firstRoad_50 19 159 rfl) (bg_dX5_firstRoad_50 20 0 rfl) (bg_dX5_firstRoad_50 21 30 rfl) (by decide +kernel)
theorem dX5_firstRoad_72 : decode cX5_firstRoad 72 = .ok (.aload_n 0, 1) := o_42 (bg_dX5_firstRoad_50 22 42 rfl)
theorem dX5_firstRoad_73 : decode cX5_firstRoad 73 = .ok (.getfield 35, 3) := o_180 (bg_dX5_firstRoad_50 23 180 rfl) (bg_dX5_firstRoad_50 24 0 rfl) (bg_dX5_firstRoad_50 25 35 rfl)
theorem dX5_firstRoad_76 : decode cX5_firstRoad 76 = .ok (.iload 6, 2) := o_21 (bg_dX5_firstRoad_50 26 21 rfl) (bg_dX5_firstRoad_50 27 6 rfl)
theorem bg_dX5_firstRoad_78 : bysAt cX5_firstRoad 78 [46, 42, 180, 0, 32, 21, 5, 46, 96, 42, 180, 0, 35, 29, 46, 160, 0, 6, 21, 5, 172, 132, 5, 1, 167, 255, 174] := bysAt_of (by decide +kernel)
theorem dX5_firstRoad_78 : decode cX5_firstRoad 78 = .ok (.iaload, 1) := o_46 (bg_dX5_firstRoad_78 0 46 rfl)
theorem dX5_firstRoad_79 : decode cX5_firstRoad 79 = .ok (.aload_n 0, 1) := o_42 (bg_dX5_firstRoad_78 1 42 rfl)
theorem dX5_firstRoad_80 : decode cX5_firstRoad 80 = .ok (.getfield 32, 3) := o_180 (bg_dX5_firstRoad_78 2 180 rfl) (bg_dX5_firstRoad_78 3 0 rfl) (bg_dX5_firstRoad_78 4 32 rfl)
theorem dX5_firstRoad_83 : decode cX5_firstRoad 83 = .ok (.iload 5, 2) := o_21 (bg_dX5_firstRoad_78 5 21 rfl) (bg_dX5_firstRoad_78 6 5 rfl)
theorem dX5_firstRoad_85 : decode cX5_firstRoad 85 = .ok (.iaload, 1) := o_46 (bg_dX5_firstRoad_78 7 46 rfl)
theorem dX5_firstRoad_86 : decode cX5_firstRoad 86 = .ok (.iadd, 1) := o_96 (bg_dX5_firstRoad_78 8 96 rfl)
theorem dX5_firstRoad_87 : decode cX5_firstRoad 87 = .ok (.aload_n 0, 1) := o_42 (bg_dX5_firstRoad_78 9 42 rfl)
theorem dX5_firstRoad_88 : decode cX5_firstRoad 88 = .ok (.getfield 35, 3) := o_180 (bg_dX5_firstRoad_78 10 180 rfl) (bg_dX5_firstRoad_78 11 0 rfl) (bg_dX5_firstRoad_78 12 35 rfl)
theorem dX5_firstRoad_91 : decode cX5_firstRoad 91 = .ok (.iload_n 3, 1) := o_29 (bg_dX5_firstRoad_78 13 29 rfl)
theorem dX5_firstRoad_92 : decode cX5_firstRoad 92 = .ok (.iaload, 1) := o_46 (bg_dX5_firstRoad_78 14 46 rfl)
theorem dX5_firstRoad_93 : decode cX5_firstRoad 93 = .ok (.if_icmp .ne 6, 3) := o_160 (bg_dX5_firstRoad_78 15 160 rfl) (bg_dX5_firstRoad_78 16 0 rfl) (bg_dX5_firstRoad_78 17 6 rfl) (by decide +kernel)
theorem dX5_firstRoad_96 : decode cX5_firstRoad 96 = .ok (.iload 5, 2) := o_21 (bg_dX5_firstRoad_78 18 21 rfl) (bg_dX5_firstRoad_78 19 5 rfl)
theorem dX5_firstRoad_98 : decode cX5_firstRoad 98 = .ok (.ireturn, 1) := o_172 (bg_dX5_firstRoad_78 20 172 rfl)
theorem dX5_firstRoad_102 : decode cX5_firstRoad 102 = .ok (.goto (-82), 3) := o_167 (bg_dX5_firstRoad_78 24 167 rfl) (bg_dX5_firstRoad_78 25 255 rfl) (bg_dX5_firstRoad_78 26 174 rfl) (by decide +kernel)
theorem bg_dX5_firstRoad_105 : bysAt cX5_firstRoad 105 [2, 172] := bysAt_of (by decide +kernel)
theorem dX5_firstRoad_105 : decode cX5_firstRoad 105 = .ok (.iconst (-1), 1) := o_2 (bg_dX5_firstRoad_105 0 2 rfl)
theorem dX5_firstRoad_106 : decode cX5_firstRoad 106 = .ok (.ireturn, 1) := o_172 (bg_dX5_firstRoad_105 1 172 rfl)
theorem bg_dX5_hasWay_0 : bysAt cX5_hasWay 0 [42, 27, 28, 182, 0, 78, 42, 4, 182, 0, 82, 42, 29, 182, 0, 86, 42, 180, 0, 35, 21, 4, 46] := bysAt_of (by decide +kernel)
theorem dX5_hasWay_0 : decode cX5_hasWay 0 = .ok (.aload_n 0, 1) := o_42 (bg_dX5_hasWay_0 0 42 rfl)
theorem dX5_hasWay_1 : decode cX5_hasWay 1 = .ok (.iload_n 1, 1) := o_27 (bg_dX5_hasWay_0 1 27 rfl)
theorem dX5_hasWay_2 : decode cX5_hasWay 2 = .ok (.iload_n 2, 1) := o_28 (bg_dX5_hasWay_0 2 28 rfl)
theorem dX5_hasWay_3 : decode cX5_hasWay 3 = .ok (.invokevirtual 78, 3) := o_182 (bg_dX5_hasWay_0 3 182 rfl) (bg_dX5_hasWay_0 4 0 rfl) (bg_dX5_hasWay_0 5 78 rfl)
theorem dX5_hasWay_6 : decode cX5_hasWay 6 = .ok (.aload_n 0, 1) := o_42 (bg_dX5_hasWay_0 6 42 rfl)
theorem dX5_hasWay_7 : decode cX5_hasWay 7 = .ok (.iconst 1, 1) := o_4 (bg_dX5_hasWay_0 7 4 rfl)
theorem dX5_hasWay_8 : decode cX5_hasWay 8 = .ok (.invokevirtual 82, 3) := o_182 (bg_dX5_hasWay_0 8 182 rfl) (bg_dX5_hasWay_0 9 0 rfl) (bg_dX5_hasWay_0 10 82 rfl)
theorem dX5_hasWay_11 : decode cX5_hasWay 11 = .ok (.aload_n 0, 1) := o_42 (bg_dX5_hasWay_0 11 42 rfl)
theorem dX5_hasWay_12 : decode cX5_hasWay 12 = .ok (.iload_n 3, 1) := o_29 (bg_dX5_hasWay_0 12 29 rfl)
theorem dX5_hasWay_13 : decode cX5_hasWay 13 = .ok (.invokevirtual 86, 3) := o_182 (bg_dX5_hasWay_0 13 182 rfl) (bg_dX5_hasWay_0 14 0 rfl) (bg_dX5_hasWay_0 15 86 rfl)
theorem dX5_hasWay_16 : decode cX5_hasWay 16 = .ok (.aload_n 0, 1) := o_42 (bg_dX5_hasWay_0 16 42 rfl)
theorem dX5_hasWay_17 : decode cX5_hasWay 17 = .ok (.getfield 35, 3) := o_180 (bg_dX5_hasWay_0 17 180 rfl) (bg_dX5_hasWay_0 18 0 rfl) (bg_dX5_hasWay_0 19 35 rfl)
theorem dX5_hasWay_20 : decode cX5_hasWay 20 = .ok (.iload 4, 2) := o_21 (bg_dX5_hasWay_0 20 21 rfl) (bg_dX5_hasWay_0 21 4 rfl)
theorem dX5_hasWay_22 : decode cX5_hasWay 22 = .ok (.iaload, 1) := o_46 (bg_dX5_hasWay_0 22 46 rfl)
theorem bg_dX5_hasWay_23 : bysAt cX5_hasWay 23 [18, 89, 159, 0, 7, 4, 167, 0, 4, 3, 172] := bysAt_of (by decide +kernel)
theorem dX5_hasWay_23 : decode cX5_hasWay 23 = .ok (.ldc 89, 2) := o_18 (bg_dX5_hasWay_23 0 18 rfl) (bg_dX5_hasWay_23 1 89 rfl)
theorem dX5_hasWay_25 : decode cX5_hasWay 25 = .ok (.if_icmp .eq 7, 3) := o_159 (bg_dX5_hasWay_23 2 159 rfl) (bg_dX5_hasWay_23 3 0 rfl) (bg_dX5_hasWay_23 4 7 rfl) (by decide +kernel)
theorem dX5_hasWay_28 : decode cX5_hasWay 28 = .ok (.iconst 1, 1) := o_4 (bg_dX5_hasWay_23 5 4 rfl)
theorem dX5_hasWay_29 : decode cX5_hasWay 29 = .ok (.goto 4, 3) := o_167 (bg_dX5_hasWay_23 6 167 rfl) (bg_dX5_hasWay_23 7 0 rfl) (bg_dX5_hasWay_23 8 4 rfl) (by decide +kernel)
theorem dX5_hasWay_32 : decode cX5_hasWay 32 = .ok (.iconst 0, 1) := o_3 (bg_dX5_hasWay_23 9 3 rfl)
theorem dX5_hasWay_33 : decode cX5_hasWay 33 = .ok (.ireturn, 1) := o_172 (bg_dX5_hasWay_23 10 172 rfl)
theorem bg_dX5_leastCoin_0 : bysAt cX5_leastCoin 0 [42, 27, 28, 182, 0, 78, 42, 21, 5, 182, 0, 82, 42, 29, 182, 0, 86, 42, 180, 0, 35, 21, 4, 46] := bysAt_of (by decide +kernel)
theorem dX5_leastCoin_0 : decode cX5_leastCoin 0 = .ok (.aload_n 0, 1) := o_42 (bg_dX5_leastCoin_0 0 42 rfl)
theorem dX5_leastCoin_1 : decode cX5_leastCoin 1 = .ok (.iload_n 1, 1) := o_27 (bg_dX5_leastCoin_0 1 27 rfl)
theorem dX5_leastCoin_2 : decode cX5_leastCoin 2 = .ok (.iload_n 2, 1) := o_28 (bg_dX5_leastCoin_0 2 28 rfl)
theorem dX5_leastCoin_3 : decode cX5_leastCoin 3 = .ok (.invokevirtual 78, 3) := o_182 (bg_dX5_leastCoin_0 3 182 rfl) (bg_dX5_leastCoin_0 4 0 rfl) (bg_dX5_leastCoin_0 5 78 rfl)
theorem dX5_leastCoin_6 : decode cX5_leastCoin 6 = .ok (.aload_n 0, 1) := o_42 (bg_dX5_leastCoin_0 6 42 rfl)
theorem dX5_leastCoin_7 : decode cX5_leastCoin 7 = .ok (.iload 5, 2) := o_21 (bg_dX5_leastCoin_0 7 21 rfl) (bg_dX5_leastCoin_0 8 5 rfl)
theorem dX5_leastCoin_9 : decode cX5_leastCoin 9 = .ok (.invokevirtual 82, 3) := o_182 (bg_dX5_leastCoin_0 9 182 rfl) (bg_dX5_leastCoin_0 10 0 rfl) (bg_dX5_leastCoin_0 11 82 rfl)
theorem dX5_leastCoin_12 : decode cX5_leastCoin 12 = .ok (.aload_n 0, 1) := o_42 (bg_dX5_leastCoin_0 12 42 rfl)
theorem dX5_leastCoin_13 : decode cX5_leastCoin 13 = .ok (.iload_n 3, 1) := o_29 (bg_dX5_leastCoin_0 13 29 rfl)
theorem dX5_leastCoin_14 : decode cX5_leastCoin 14 = .ok (.invokevirtual 86, 3) := o_182 (bg_dX5_leastCoin_0 14 182 rfl) (bg_dX5_leastCoin_0 15 0 rfl) (bg_dX5_leastCoin_0 16 86 rfl)
theorem dX5_leastCoin_17 : decode cX5_leastCoin 17 = .ok (.aload_n 0, 1) := o_42 (bg_dX5_leastCoin_0 17 42 rfl)
theorem dX5_leastCoin_18 : decode cX5_leastCoin 18 = .ok (.getfield 35, 3) := o_180 (bg_dX5_leastCoin_0 18 180 rfl) (bg_dX5_leastCoin_0 19 0 rfl) (bg_dX5_leastCoin_0 20 35 rfl)
theorem dX5_leastCoin_21 : decode cX5_leastCoin 21 = .ok (.iload 4, 2) := o_21 (bg_dX5_leastCoin_0 21 21 rfl) (bg_dX5_leastCoin_0 22 4 rfl)
theorem dX5_leastCoin_23 : decode cX5_leastCoin 23 = .ok (.iaload, 1) := o_46 (bg_dX5_leastCoin_0 23 46 rfl)
theorem bg_dX5_leastCoin_24 : bysAt cX5_leastCoin 24 [18, 89, 160, 0, 8, 18, 89, 167, 0, 21, 42, 180, 0, 35, 21, 4, 46, 21, 5, 42, 180, 0, 18, 180, 0, 90, 104, 96] := bysAt_of (by decide +kernel)
theorem dX5_leastCoin_24 : decode cX5_leastCoin 24 = .ok (.ldc 89, 2) := o_18 (bg_dX5_leastCoin_24 0 18 rfl) (bg_dX5_leastCoin_24 1 89 rfl)
theorem dX5_leastCoin_26 : decode cX5_leastCoin 26 = .ok (.if_icmp .ne 8, 3) := o_160 (bg_dX5_leastCoin_24 2 160 rfl) (bg_dX5_leastCoin_24 3 0 rfl) (bg_dX5_leastCoin_24 4 8 rfl) (by decide +kernel)
theorem dX5_leastCoin_29 : decode cX5_leastCoin 29 = .ok (.ldc 89, 2) := o_18 (bg_dX5_leastCoin_24 5 18 rfl) (bg_dX5_leastCoin_24 6 89 rfl)
theorem dX5_leastCoin_31 : decode cX5_leastCoin 31 = .ok (.goto 21, 3) := o_167 (bg_dX5_leastCoin_24 7 167 rfl) (bg_dX5_leastCoin_24 8 0 rfl) (bg_dX5_leastCoin_24 9 21 rfl) (by decide +kernel)
theorem dX5_leastCoin_34 : decode cX5_leastCoin 34 = .ok (.aload_n 0, 1) := o_42 (bg_dX5_leastCoin_24 10 42 rfl)
theorem dX5_leastCoin_35 : decode cX5_leastCoin 35 = .ok (.getfield 35, 3) := o_180 (bg_dX5_leastCoin_24 11 180 rfl) (bg_dX5_leastCoin_24 12 0 rfl) (bg_dX5_leastCoin_24 13 35 rfl)
theorem dX5_leastCoin_38 : decode cX5_leastCoin 38 = .ok (.iload 4, 2) := o_21 (bg_dX5_leastCoin_24 14 21 rfl) (bg_dX5_leastCoin_24 15 4 rfl)
theorem dX5_leastCoin_40 : decode cX5_leastCoin 40 = .ok (.iaload, 1) := o_46 (bg_dX5_leastCoin_24 16 46 rfl)
theorem dX5_leastCoin_41 : decode cX5_leastCoin 41 = .ok (.iload 5, 2) := o_21 (bg_dX5_leastCoin_24 17 21 rfl) (bg_dX5_leastCoin_24 18 5 rfl)
theorem dX5_leastCoin_43 : decode cX5_leastCoin 43 = .ok (.aload_n 0, 1) := o_42 (bg_dX5_leastCoin_24 19 42 rfl)
theorem dX5_leastCoin_44 : decode cX5_leastCoin 44 = .ok (.getfield 18, 3) := o_180 (bg_dX5_leastCoin_24 20 180 rfl) (bg_dX5_leastCoin_24 21 0 rfl) (bg_dX5_leastCoin_24 22 18 rfl)
theorem dX5_leastCoin_47 : decode cX5_leastCoin 47 = .ok (.getfield 90, 3) := o_180 (bg_dX5_leastCoin_24 23 180 rfl) (bg_dX5_leastCoin_24 24 0 rfl) (bg_dX5_leastCoin_24 25 90 rfl)
theorem dX5_leastCoin_50 : decode cX5_leastCoin 50 = .ok (.imul, 1) := o_104 (bg_dX5_leastCoin_24 26 104 rfl)
theorem dX5_leastCoin_51 : decode cX5_leastCoin 51 = .ok (.iadd, 1) := o_96 (bg_dX5_leastCoin_24 27 96 rfl)
theorem bg_dX5_leastCoin_52 : bysAt cX5_leastCoin 52 [172] := bysAt_of (by decide +kernel)
theorem dX5_leastCoin_52 : decode cX5_leastCoin 52 = .ok (.ireturn, 1) := o_172 (bg_dX5_leastCoin_52 0 172 rfl)
theorem bg_dX5_leastDays_0 : bysAt cX5_leastDays 0 [42, 27, 28, 182, 0, 78, 3, 54, 5, 21, 5, 42, 180, 0, 9, 180, 0, 45, 3, 46, 162, 0, 22, 42] := bysAt_of (by decide +kernel)
theorem dX5_leastDays_0 : decode cX5_leastDays 0 = .ok (.aload_n 0, 1) := o_42 (bg_dX5_leastDays_0 0 42 rfl)
theorem dX5_leastDays_1 : decode cX5_leastDays 1 = .ok (.iload_n 1, 1) := o_27 (bg_dX5_leastDays_0 1 27 rfl)
theorem dX5_leastDays_2 : decode cX5_leastDays 2 = .ok (.iload_n 2, 1) := o_28 (bg_dX5_leastDays_0 2 28 rfl)
theorem dX5_leastDays_3 : decode cX5_leastDays 3 = .ok (.invokevirtual 78, 3) := o_182 (bg_dX5_leastDays_0 3 182 rfl) (bg_dX5_leastDays_0 4 0 rfl) (bg_dX5_leastDays_0 5 78 rfl)
theorem dX5_leastDays_6 : decode cX5_leastDays 6 = .ok (.iconst 0, 1) := o_3 (bg_dX5_leastDays_0 6 3 rfl)
theorem dX5_leastDays_7 : decode cX5_leastDays 7 = .ok (.istore 5, 2) := o_54 (bg_dX5_leastDays_0 7 54 rfl) (bg_dX5_leastDays_0 8 5 rfl)
theorem dX5_leastDays_9 : decode cX5_leastDays 9 = .ok (.iload 5, 2) := o_21 (bg_dX5_leastDays_0 9 21 rfl) (bg_dX5_leastDays_0 10 5 rfl)
theorem dX5_leastDays_11 : decode cX5_leastDays 11 = .ok (.aload_n 0, 1) := o_42 (bg_dX5_leastDays_0 11 42 rfl)
theorem dX5_leastDays_12 : decode cX5_leastDays 12 = .ok (.getfield 9, 3) := o_180 (bg_dX5_leastDays_0 12 180 rfl) (bg_dX5_leastDays_0 13 0 rfl) (bg_dX5_leastDays_0 14 9 rfl)
theorem dX5_leastDays_15 : decode cX5_leastDays 15 = .ok (.getfield 45, 3) := o_180 (bg_dX5_leastDays_0 15 180 rfl) (bg_dX5_leastDays_0 16 0 rfl) (bg_dX5_leastDays_0 17 45 rfl)
theorem dX5_leastDays_18 : decode cX5_leastDays 18 = .ok (.iconst 0, 1) := o_3 (bg_dX5_leastDays_0 18 3 rfl)
theorem dX5_leastDays_19 : decode cX5_leastDays 19 = .ok (.iaload, 1) := o_46 (bg_dX5_leastDays_0 19 46 rfl)
theorem dX5_leastDays_20 : decode cX5_leastDays 20 = .ok (.if_icmp .ge 22, 3) := o_162 (bg_dX5_leastDays_0 20 162 rfl) (bg_dX5_leastDays_0 21 0 rfl) (bg_dX5_leastDays_0 22 22 rfl) (by decide +kernel)
theorem dX5_leastDays_23 : decode cX5_leastDays 23 = .ok (.aload_n 0, 1) := o_42 (bg_dX5_leastDays_0 23 42 rfl)
theorem bg_dX5_leastDays_24 : bysAt cX5_leastDays 24 [180, 0, 32, 21, 5, 42, 21, 5, 182, 0, 93, 79, 132, 5, 1, 167, 255, 226, 42, 29, 182, 0, 86, 42, 180, 0, 35, 21, 4, 46] := bysAt_of (by decide +kernel)
theorem dX5_leastDays_24 : decode cX5_leastDays 24 = .ok (.getfield 32, 3) := o_180 (bg_dX5_leastDays_24 0 180 rfl) (bg_dX5_leastDays_24 1 0 rfl) (bg_dX5_leastDays_24 2 32 rfl)
theorem dX5_leastDays_27 : decode cX5_leastDays 27 = .ok (.iload 5, 2) := o_21 (bg_dX5_leastDays_24 3 21 rfl) (bg_dX5_leastDays_24 4 5 rfl)
theorem dX5_leastDays_29 : decode cX5_leastDays 29 = .ok (.aload_n 0, 1) := o_42 (bg_dX5_leastDays_24 5 42 rfl)
theorem dX5_leastDays_30 : decode cX5_leastDays 30 = .ok (.iload 5, 2) := o_21 (bg_dX5_leastDays_24 6 21 rfl) (bg_dX5_leastDays_24 7 5 rfl)
theorem dX5_leastDays_32 : decode cX5_leastDays 32 = .ok (.invokevirtual 93, 3) := o_182 (bg_dX5_leastDays_24 8 182 rfl) (bg_dX5_leastDays_24 9 0 rfl) (bg_dX5_leastDays_24 10 93 rfl)
theorem dX5_leastDays_35 : decode cX5_leastDays 35 = .ok (.iastore, 1) := o_79 (bg_dX5_leastDays_24 11 79 rfl)
theorem dX5_leastDays_39 : decode cX5_leastDays 39 = .ok (.goto (-30), 3) := o_167 (bg_dX5_leastDays_24 15 167 rfl) (bg_dX5_leastDays_24 16 255 rfl) (bg_dX5_leastDays_24 17 226 rfl) (by decide +kernel)
theorem dX5_leastDays_42 : decode cX5_leastDays 42 = .ok (.aload_n 0, 1) := o_42 (bg_dX5_leastDays_24 18 42 rfl)
theorem dX5_leastDays_43 : decode cX5_leastDays 43 = .ok (.iload_n 3, 1) := o_29 (bg_dX5_leastDays_24 19 29 rfl)
theorem dX5_leastDays_44 : decode cX5_leastDays 44 = .ok (.invokevirtual 86, 3) := o_182 (bg_dX5_leastDays_24 20 182 rfl) (bg_dX5_leastDays_24 21 0 rfl) (bg_dX5_leastDays_24 22 86 rfl)
theorem dX5_leastDays_47 : decode cX5_leastDays 47 = .ok (.aload_n 0, 1) := o_42 (bg_dX5_leastDays_24 23 42 rfl)
theorem dX5_leastDays_48 : decode cX5_leastDays 48 = .ok (.getfield 35, 3) := o_180 (bg_dX5_leastDays_24 24 180 rfl) (bg_dX5_leastDays_24 25 0 rfl) (bg_dX5_leastDays_24 26 35 rfl)
theorem dX5_leastDays_51 : decode cX5_leastDays 51 = .ok (.iload 4, 2) := o_21 (bg_dX5_leastDays_24 27 21 rfl) (bg_dX5_leastDays_24 28 4 rfl)
theorem dX5_leastDays_53 : decode cX5_leastDays 53 = .ok (.iaload, 1) := o_46 (bg_dX5_leastDays_24 29 46 rfl)
theorem bg_dX5_leastDays_54 : bysAt cX5_leastDays 54 [172] := bysAt_of (by decide +kernel)
theorem dX5_leastDays_54 : decode cX5_leastDays 54 = .ok (.ireturn, 1) := o_172 (bg_dX5_leastDays_54 0 172 rfl)
theorem bg_dX5_otherEnd_0 : bysAt cX5_otherEnd 0 [42, 180, 0, 9, 27, 3, 182, 0, 50, 28, 160, 0, 13, 42, 180, 0, 9, 27, 4, 182, 0, 50, 172, 42] := bysAt_of (by decide +kernel)
theorem dX5_otherEnd_0 : decode cX5_otherEnd 0 = .ok (.aload_n 0, 1) := o_42 (bg_dX5_otherEnd_0 0 42 rfl)
theorem dX5_otherEnd_1 : decode cX5_otherEnd 1 = .ok (.getfield 9, 3) := o_180 (bg_dX5_otherEnd_0 1 180 rfl) (bg_dX5_otherEnd_0 2 0 rfl) (bg_dX5_otherEnd_0 3 9 rfl)
theorem dX5_otherEnd_4 : decode cX5_otherEnd 4 = .ok (.iload_n 1, 1) := o_27 (bg_dX5_otherEnd_0 4 27 rfl)
theorem dX5_otherEnd_5 : decode cX5_otherEnd 5 = .ok (.iconst 0, 1) := o_3 (bg_dX5_otherEnd_0 5 3 rfl)
theorem dX5_otherEnd_6 : decode cX5_otherEnd 6 = .ok (.invokevirtual 50, 3) := o_182 (bg_dX5_otherEnd_0 6 182 rfl) (bg_dX5_otherEnd_0 7 0 rfl) (bg_dX5_otherEnd_0 8 50 rfl)
theorem dX5_otherEnd_9 : decode cX5_otherEnd 9 = .ok (.iload_n 2, 1) := o_28 (bg_dX5_otherEnd_0 9 28 rfl)
theorem dX5_otherEnd_10 : decode cX5_otherEnd 10 = .ok (.if_icmp .ne 13, 3) := o_160 (bg_dX5_otherEnd_0 10 160 rfl) (bg_dX5_otherEnd_0 11 0 rfl) (bg_dX5_otherEnd_0 12 13 rfl) (by decide +kernel)
theorem dX5_otherEnd_13 : decode cX5_otherEnd 13 = .ok (.aload_n 0, 1) := o_42 (bg_dX5_otherEnd_0 13 42 rfl)
theorem dX5_otherEnd_14 : decode cX5_otherEnd 14 = .ok (.getfield 9, 3) := o_180 (bg_dX5_otherEnd_0 14 180 rfl) (bg_dX5_otherEnd_0 15 0 rfl) (bg_dX5_otherEnd_0 16 9 rfl)
theorem dX5_otherEnd_17 : decode cX5_otherEnd 17 = .ok (.iload_n 1, 1) := o_27 (bg_dX5_otherEnd_0 17 27 rfl)
theorem dX5_otherEnd_18 : decode cX5_otherEnd 18 = .ok (.iconst 1, 1) := o_4 (bg_dX5_otherEnd_0 18 4 rfl)
theorem dX5_otherEnd_19 : decode cX5_otherEnd 19 = .ok (.invokevirtual 50, 3) := o_182 (bg_dX5_otherEnd_0 19 182 rfl) (bg_dX5_otherEnd_0 20 0 rfl) (bg_dX5_otherEnd_0 21 50 rfl)
theorem dX5_otherEnd_22 : decode cX5_otherEnd 22 = .ok (.ireturn, 1) := o_172 (bg_dX5_otherEnd_0 22 172 rfl)
theorem dX5_otherEnd_23 : decode cX5_otherEnd 23 = .ok (.aload_n 0, 1) := o_42 (bg_dX5_otherEnd_0 23 42 rfl)
theorem bg_dX5_otherEnd_24 : bysAt cX5_otherEnd 24 [180, 0, 9, 27, 4, 182, 0, 50, 28, 160, 0, 15, 42, 180, 0, 9, 27, 3, 182, 0, 50, 167, 0, 4, 2, 172] := bysAt_of (by decide +kernel)
theorem dX5_otherEnd_24 : decode cX5_otherEnd 24 = .ok (.getfield 9, 3) := o_180 (bg_dX5_otherEnd_24 0 180 rfl) (bg_dX5_otherEnd_24 1 0 rfl) (bg_dX5_otherEnd_24 2 9 rfl)
theorem dX5_otherEnd_27 : decode cX5_otherEnd 27 = .ok (.iload_n 1, 1) := o_27 (bg_dX5_otherEnd_24 3 27 rfl)
theorem dX5_otherEnd_28 : decode cX5_otherEnd 28 = .ok (.iconst 1, 1) := o_4 (bg_dX5_otherEnd_24 4 4 rfl)
theorem dX5_otherEnd_29 : decode cX5_otherEnd 29 = .ok (.invokevirtual 50, 3) := o_182 (bg_dX5_otherEnd_24 5 182 rfl) (bg_dX5_otherEnd_24 6 0 rfl) (bg_dX5_otherEnd_24 7 50 rfl)
theorem dX5_otherEnd_32 : decode cX5_otherEnd 32 = .ok (.iload_n 2, 1) := o_28 (bg_dX5_otherEnd_24 8 28 rfl)
theorem dX5_otherEnd_33 : decode cX5_otherEnd 33 = .ok (.if_icmp .ne 15, 3) := o_160 (bg_dX5_otherEnd_24 9 160 rfl) (bg_dX5_otherEnd_24 10 0 rfl) (bg_dX5_otherEnd_24 11 15 rfl) (by decide +kernel)
theorem dX5_otherEnd_36 : decode cX5_otherEnd 36 = .ok (.aload_n 0, 1) := o_42 (bg_dX5_otherEnd_24 12 42 rfl)
theorem dX5_otherEnd_37 : decode cX5_otherEnd 37 = .ok (.getfield 9, 3) := o_180 (bg_dX5_otherEnd_24 13 180 rfl) (bg_dX5_otherEnd_24 14 0 rfl) (bg_dX5_otherEnd_24 15 9 rfl)
theorem dX5_otherEnd_40 : decode cX5_otherEnd 40 = .ok (.iload_n 1, 1) := o_27 (bg_dX5_otherEnd_24 16 27 rfl)
theorem dX5_otherEnd_41 : decode cX5_otherEnd 41 = .ok (.iconst 0, 1) := o_3 (bg_dX5_otherEnd_24 17 3 rfl)
theorem dX5_otherEnd_42 : decode cX5_otherEnd 42 = .ok (.invokevirtual 50, 3) := o_182 (bg_dX5_otherEnd_24 18 182 rfl) (bg_dX5_otherEnd_24 19 0 rfl) (bg_dX5_otherEnd_24 20 50 rfl)
theorem dX5_otherEnd_45 : decode cX5_otherEnd 45 = .ok (.goto 4, 3) := o_167 (bg_dX5_otherEnd_24 21 167 rfl) (bg_dX5_otherEnd_24 22 0 rfl) (bg_dX5_otherEnd_24 23 4 rfl) (by decide +kernel)
theorem dX5_otherEnd_48 : decode cX5_otherEnd 48 = .ok (.iconst (-1), 1) := o_2 (bg_dX5_otherEnd_24 24 2 rfl)
theorem dX5_otherEnd_49 : decode cX5_otherEnd 49 = .ok (.ireturn, 1) := o_172 (bg_dX5_otherEnd_24 25 172 rfl)
theorem bg_dX5_priceByCoin_0 : bysAt cX5_priceByCoin 0 [3, 61, 28, 42, 180, 0, 9, 180, 0, 45, 3, 46, 162, 0, 21, 42, 180, 0, 32, 28, 42, 28] := bysAt_of (by decide +kernel)
theorem dX5_priceByCoin_0 : decode cX5_priceByCoin 0 = .ok (.iconst 0, 1) := o_3 (bg_dX5_priceByCoin_0 0 3 rfl)
theorem dX5_priceByCoin_1 : decode cX5_priceByCoin 1 = .ok (.istore_n 2, 1) := o_61 (bg_dX5_priceByCoin_0 1 61 rfl)
theorem dX5_priceByCoin_2 : decode cX5_priceByCoin 2 = .ok (.iload_n 2, 1) := o_28 (bg_dX5_priceByCoin_0 2 28 rfl)
theorem dX5_priceByCoin_3 : decode cX5_priceByCoin 3 = .ok (.aload_n 0, 1) := o_42 (bg_dX5_priceByCoin_0 3 42 rfl)
theorem dX5_priceByCoin_4 : decode cX5_priceByCoin 4 = .ok (.getfield 9, 3) := o_180 (bg_dX5_priceByCoin_0 4 180 rfl) (bg_dX5_priceByCoin_0 5 0 rfl) (bg_dX5_priceByCoin_0 6 9 rfl)
theorem dX5_priceByCoin_7 : decode cX5_priceByCoin 7 = .ok (.getfield 45, 3) := o_180 (bg_dX5_priceByCoin_0 7 180 rfl) (bg_dX5_priceByCoin_0 8 0 rfl) (bg_dX5_priceByCoin_0 9 45 rfl)
theorem dX5_priceByCoin_10 : decode cX5_priceByCoin 10 = .ok (.iconst 0, 1) := o_3 (bg_dX5_priceByCoin_0 10 3 rfl)
theorem dX5_priceByCoin_11 : decode cX5_priceByCoin 11 = .ok (.iaload, 1) := o_46 (bg_dX5_priceByCoin_0 11 46 rfl)
theorem dX5_priceByCoin_12 : decode cX5_priceByCoin 12 = .ok (.if_icmp .ge 21, 3) := o_162 (bg_dX5_priceByCoin_0 12 162 rfl) (bg_dX5_priceByCoin_0 13 0 rfl) (bg_dX5_priceByCoin_0 14 21 rfl) (by decide +kernel)
theorem dX5_priceByCoin_15 : decode cX5_priceByCoin 15 = .ok (.aload_n 0, 1) := o_42 (bg_dX5_priceByCoin_0 15 42 rfl)
theorem dX5_priceByCoin_16 : decode cX5_priceByCoin 16 = .ok (.getfield 32, 3) := o_180 (bg_dX5_priceByCoin_0 16 180 rfl) (bg_dX5_priceByCoin_0 17 0 rfl) (bg_dX5_priceByCoin_0 18 32 rfl)
theorem dX5_priceByCoin_19 : decode cX5_priceByCoin 19 = .ok (.iload_n 2, 1) := o_28 (bg_dX5_priceByCoin_0 19 28 rfl)
theorem dX5_priceByCoin_20 : decode cX5_priceByCoin 20 = .ok (.aload_n 0, 1) := o_42 (bg_dX5_priceByCoin_0 20 42 rfl)
theorem dX5_priceByCoin_21 : decode cX5_priceByCoin 21 = .ok (.iload_n 2, 1) := o_28 (bg_dX5_priceByCoin_0 21 28 rfl)
theorem bg_dX5_priceByCoin_22 : bysAt cX5_priceByCoin 22 [27, 182, 0, 96, 79, 132, 2, 1, 167, 255, 228, 177] := bysAt_of (by decide +kernel)
theorem dX5_priceByCoin_22 : decode cX5_priceByCoin 22 = .ok (.iload_n 1, 1) := o_27 (bg_dX5_priceByCoin_22 0 27 rfl)
theorem dX5_priceByCoin_23 : decode cX5_priceByCoin 23 = .ok (.invokevirtual 96, 3) := o_182 (bg_dX5_priceByCoin_22 1 182 rfl) (bg_dX5_priceByCoin_22 2 0 rfl) (bg_dX5_priceByCoin_22 3 96 rfl)
theorem dX5_priceByCoin_26 : decode cX5_priceByCoin 26 = .ok (.iastore, 1) := o_79 (bg_dX5_priceByCoin_22 4 79 rfl)
theorem dX5_priceByCoin_30 : decode cX5_priceByCoin 30 = .ok (.goto (-28), 3) := o_167 (bg_dX5_priceByCoin_22 8 167 rfl) (bg_dX5_priceByCoin_22 9 255 rfl) (bg_dX5_priceByCoin_22 10 228 rfl) (by decide +kernel)
theorem dX5_priceByCoin_33 : decode cX5_priceByCoin 33 = .ok (.return_, 1) := o_177 (bg_dX5_priceByCoin_22 11 177 rfl)
theorem bg_dX5_reached_0 : bysAt cX5_reached 0 [42, 27, 28, 182, 0, 78, 42, 4, 182, 0, 82, 42, 29, 182, 0, 86, 3, 54, 4, 3, 54, 5] := bysAt_of (by decide +kernel)
theorem dX5_reached_0 : decode cX5_reached 0 = .ok (.aload_n 0, 1) := o_42 (bg_dX5_reached_0 0 42 rfl)
theorem dX5_reached_1 : decode cX5_reached 1 = .ok (.iload_n 1, 1) := o_27 (bg_dX5_reached_0 1 27 rfl)
theorem dX5_reached_2 : decode cX5_reached 2 = .ok (.iload_n 2, 1) := o_28 (bg_dX5_reached_0 2 28 rfl)
theorem dX5_reached_3 : decode cX5_reached 3 = .ok (.invokevirtual 78, 3) := o_182 (bg_dX5_reached_0 3 182 rfl) (bg_dX5_reached_0 4 0 rfl) (bg_dX5_reached_0 5 78 rfl)
theorem dX5_reached_6 : decode cX5_reached 6 = .ok (.aload_n 0, 1) := o_42 (bg_dX5_reached_0 6 42 rfl)
theorem dX5_reached_7 : decode cX5_reached 7 = .ok (.iconst 1, 1) := o_4 (bg_dX5_reached_0 7 4 rfl)
theorem dX5_reached_8 : decode cX5_reached 8 = .ok (.invokevirtual 82, 3) := o_182 (bg_dX5_reached_0 8 182 rfl) (bg_dX5_reached_0 9 0 rfl) (bg_dX5_reached_0 10 82 rfl)
theorem dX5_reached_11 : decode cX5_reached 11 = .ok (.aload_n 0, 1) := o_42 (bg_dX5_reached_0 11 42 rfl)
theorem dX5_reached_12 : decode cX5_reached 12 = .ok (.iload_n 3, 1) := o_29 (bg_dX5_reached_0 12 29 rfl)
theorem dX5_reached_13 : decode cX5_reached 13 = .ok (.invokevirtual 86, 3) := o_182 (bg_dX5_reached_0 13 182 rfl) (bg_dX5_reached_0 14 0 rfl) (bg_dX5_reached_0 15 86 rfl)
theorem dX5_reached_16 : decode cX5_reached 16 = .ok (.iconst 0, 1) := o_3 (bg_dX5_reached_0 16 3 rfl)
theorem dX5_reached_17 : decode cX5_reached 17 = .ok (.istore 4, 2) := o_54 (bg_dX5_reached_0 17 54 rfl) (bg_dX5_reached_0 18 4 rfl)
theorem dX5_reached_19 : decode cX5_reached 19 = .ok (.iconst 0, 1) := o_3 (bg_dX5_reached_0 19 3 rfl)
theorem dX5_reached_20 : decode cX5_reached 20 = .ok (.istore 5, 2) := o_54 (bg_dX5_reached_0 20 54 rfl) (bg_dX5_reached_0 21 5 rfl)
theorem bg_dX5_reached_22 : bysAt cX5_reached 22 [21, 5, 16, 16, 162, 0, 30, 42, 180, 0, 35, 21, 5, 46, 18, 89, 159, 0, 12, 21, 4, 4, 21, 5, 120, 128] := bysAt_of (by decide +kernel)
theorem dX5_reached_22 : decode cX5_reached 22 = .ok (.iload 5, 2) := o_21 (bg_dX5_reached_22 0 21 rfl) (bg_dX5_reached_22 1 5 rfl)
theorem dX5_reached_24 : decode cX5_reached 24 = .ok (.bipush 16, 2) := o_16 (bg_dX5_reached_22 2 16 rfl) (bg_dX5_reached_22 3 16 rfl) (by decide +kernel)
theorem dX5_reached_26 : decode cX5_reached 26 = .ok (.if_icmp .ge 30, 3) := o_162 (bg_dX5_reached_22 4 162 rfl) (bg_dX5_reached_22 5 0 rfl) (bg_dX5_reached_22 6 30 rfl) (by decide +kernel)
theorem dX5_reached_29 : decode cX5_reached 29 = .ok (.aload_n 0, 1) := o_42 (bg_dX5_reached_22 7 42 rfl)
theorem dX5_reached_30 : decode cX5_reached 30 = .ok (.getfield 35, 3) := o_180 (bg_dX5_reached_22 8 180 rfl) (bg_dX5_reached_22 9 0 rfl) (bg_dX5_reached_22 10 35 rfl)
theorem dX5_reached_33 : decode cX5_reached 33 = .ok (.iload 5, 2) := o_21 (bg_dX5_reached_22 11 21 rfl) (bg_dX5_reached_22 12 5 rfl)
theorem dX5_reached_35 : decode cX5_reached 35 = .ok (.iaload, 1) := o_46 (bg_dX5_reached_22 13 46 rfl)
theorem dX5_reached_36 : decode cX5_reached 36 = .ok (.ldc 89, 2) := o_18 (bg_dX5_reached_22 14 18 rfl) (bg_dX5_reached_22 15 89 rfl)
theorem dX5_reached_38 : decode cX5_reached 38 = .ok (.if_icmp .eq 12, 3) := o_159 (bg_dX5_reached_22 16 159 rfl) (bg_dX5_reached_22 17 0 rfl) (bg_dX5_reached_22 18 12 rfl) (by decide +kernel)
theorem dX5_reached_41 : decode cX5_reached 41 = .ok (.iload 4, 2) := o_21 (bg_dX5_reached_22 19 21 rfl) (bg_dX5_reached_22 20 4 rfl)
theorem dX5_reached_43 : decode cX5_reached 43 = .ok (.iconst 1, 1) := o_4 (bg_dX5_reached_22 21 4 rfl)
theorem dX5_reached_44 : decode cX5_reached 44 = .ok (.iload 5, 2) := o_21 (bg_dX5_reached_22 22 21 rfl) (bg_dX5_reached_22 23 5 rfl)
theorem dX5_reached_46 : decode cX5_reached 46 = .ok (.ishl, 1) := o_120 (bg_dX5_reached_22 24 120 rfl)
theorem dX5_reached_47 : decode cX5_reached 47 = .ok (.ior, 1) := o_128 (bg_dX5_reached_22 25 128 rfl)
theorem bg_dX5_reached_48 : bysAt cX5_reached 48 [54, 4, 132, 5, 1, 167, 255, 225, 21, 4, 172] := bysAt_of (by decide +kernel)
theorem dX5_reached_48 : decode cX5_reached 48 = .ok (.istore 4, 2) := o_54 (bg_dX5_reached_48 0 54 rfl) (bg_dX5_reached_48 1 4 rfl)
theorem dX5_reached_53 : decode cX5_reached 53 = .ok (.goto (-31), 3) := o_167 (bg_dX5_reached_48 5 167 rfl) (bg_dX5_reached_48 6 255 rfl) (bg_dX5_reached_48 7 225 rfl) (by decide +kernel)
theorem dX5_reached_56 : decode cX5_reached 56 = .ok (.iload 4, 2) := o_21 (bg_dX5_reached_48 8 21 rfl) (bg_dX5_reached_48 9 4 rfl)
theorem dX5_reached_58 : decode cX5_reached 58 = .ok (.ireturn, 1) := o_172 (bg_dX5_reached_48 10 172 rfl)
theorem bg_dX5_setOut_0 : bysAt cX5_setOut 0 [42, 180, 0, 38, 3, 3, 79, 42, 180, 0, 38, 4, 3, 79, 42, 180, 0, 38, 5, 3] := bysAt_of (by decide +kernel)
theorem dX5_setOut_0 : decode cX5_setOut 0 = .ok (.aload_n 0, 1) := o_42 (bg_dX5_setOut_0 0 42 rfl)
theorem dX5_setOut_1 : decode cX5_setOut 1 = .ok (.getfield 38, 3) := o_180 (bg_dX5_setOut_0 1 180 rfl) (bg_dX5_setOut_0 2 0 rfl) (bg_dX5_setOut_0 3 38 rfl)
theorem dX5_setOut_4 : decode cX5_setOut 4 = .ok (.iconst 0, 1) := o_3 (bg_dX5_setOut_0 4 3 rfl)
theorem dX5_setOut_5 : decode cX5_setOut 5 = .ok (.iconst 0, 1) := o_3 (bg_dX5_setOut_0 5 3 rfl)
theorem dX5_setOut_6 : decode cX5_setOut 6 = .ok (.iastore, 1) := o_79 (bg_dX5_setOut_0 6 79 rfl)
theorem dX5_setOut_7 : decode cX5_setOut 7 = .ok (.aload_n 0, 1) := o_42 (bg_dX5_setOut_0 7 42 rfl)
theorem dX5_setOut_8 : decode cX5_setOut 8 = .ok (.getfield 38, 3) := o_180 (bg_dX5_setOut_0 8 180 rfl) (bg_dX5_setOut_0 9 0 rfl) (bg_dX5_setOut_0 10 38 rfl)
theorem dX5_setOut_11 : decode cX5_setOut 11 = .ok (.iconst 1, 1) := o_4 (bg_dX5_setOut_0 11 4 rfl)
theorem dX5_setOut_12 : decode cX5_setOut 12 = .ok (.iconst 0, 1) := o_3 (bg_dX5_setOut_0 12 3 rfl)
theorem dX5_setOut_13 : decode cX5_setOut 13 = .ok (.iastore, 1) := o_79 (bg_dX5_setOut_0 13 79 rfl)
theorem dX5_setOut_14 : decode cX5_setOut 14 = .ok (.aload_n 0, 1) := o_42 (bg_dX5_setOut_0 14 42 rfl)
theorem dX5_setOut_15 : decode cX5_setOut 15 = .ok (.getfield 38, 3) := o_180 (bg_dX5_setOut_0 15 180 rfl) (bg_dX5_setOut_0 16 0 rfl) (bg_dX5_setOut_0 17 38 rfl)
theorem dX5_setOut_18 : decode cX5_setOut 18 = .ok (.iconst 2, 1) := o_5 (bg_dX5_setOut_0 18 5 rfl)
theorem dX5_setOut_19 : decode cX5_setOut 19 = .ok (.iconst 0, 1) := o_3 (bg_dX5_setOut_0 19 3 rfl)
theorem bg_dX5_setOut_20 : bysAt cX5_setOut 20 [79, 42, 180, 0, 38, 6, 27, 79, 177] := bysAt_of (by decide +kernel)
theorem dX5_setOut_20 : decode cX5_setOut 20 = .ok (.iastore, 1) := o_79 (bg_dX5_setOut_20 0 79 rfl)
theorem dX5_setOut_21 : decode cX5_setOut 21 = .ok (.aload_n 0, 1) := o_42 (bg_dX5_setOut_20 1 42 rfl)
theorem dX5_setOut_22 : decode cX5_setOut 22 = .ok (.getfield 38, 3) := o_180 (bg_dX5_setOut_20 2 180 rfl) (bg_dX5_setOut_20 3 0 rfl) (bg_dX5_setOut_20 4 38 rfl)
theorem dX5_setOut_25 : decode cX5_setOut 25 = .ok (.iconst 3, 1) := o_6 (bg_dX5_setOut_20 5 6 rfl)
theorem dX5_setOut_26 : decode cX5_setOut 26 = .ok (.iload_n 1, 1) := o_27 (bg_dX5_setOut_20 6 27 rfl)
theorem dX5_setOut_27 : decode cX5_setOut 27 = .ok (.iastore, 1) := o_79 (bg_dX5_setOut_20 7 79 rfl)
theorem dX5_setOut_28 : decode cX5_setOut 28 = .ok (.return_, 1) := o_177 (bg_dX5_setOut_20 8 177 rfl)
theorem bg_dX5_shorten_0 : bysAt cX5_shorten 0 [42, 180, 0, 9, 27, 3, 182, 0, 50, 61, 42, 180, 0, 9, 27, 4, 182, 0, 50, 62, 42, 180, 0, 35] := bysAt_of (by decide +kernel)
theorem dX5_shorten_0 : decode cX5_shorten 0 = .ok (.aload_n 0, 1) := o_42 (bg_dX5_shorten_0 0 42 rfl)
theorem dX5_shorten_1 : decode cX5_shorten 1 = .ok (.getfield 9, 3) := o_180 (bg_dX5_shorten_0 1 180 rfl) (bg_dX5_shorten_0 2 0 rfl) (bg_dX5_shorten_0 3 9 rfl)
theorem dX5_shorten_4 : decode cX5_shorten 4 = .ok (.iload_n 1, 1) := o_27 (bg_dX5_shorten_0 4 27 rfl)
theorem dX5_shorten_5 : decode cX5_shorten 5 = .ok (.iconst 0, 1) := o_3 (bg_dX5_shorten_0 5 3 rfl)
theorem dX5_shorten_6 : decode cX5_shorten 6 = .ok (.invokevirtual 50, 3) := o_182 (bg_dX5_shorten_0 6 182 rfl) (bg_dX5_shorten_0 7 0 rfl) (bg_dX5_shorten_0 8 50 rfl)
theorem dX5_shorten_9 : decode cX5_shorten 9 = .ok (.istore_n 2, 1) := o_61 (bg_dX5_shorten_0 9 61 rfl)
theorem dX5_shorten_10 : decode cX5_shorten 10 = .ok (.aload_n 0, 1) := o_42 (bg_dX5_shorten_0 10 42 rfl)
theorem dX5_shorten_11 : decode cX5_shorten 11 = .ok (.getfield 9, 3) := o_180 (bg_dX5_shorten_0 11 180 rfl) (bg_dX5_shorten_0 12 0 rfl) (bg_dX5_shorten_0 13 9 rfl)
theorem dX5_shorten_14 : decode cX5_shorten 14 = .ok (.iload_n 1, 1) := o_27 (bg_dX5_shorten_0 14 27 rfl)
theorem dX5_shorten_15 : decode cX5_shorten 15 = .ok (.iconst 1, 1) := o_4 (bg_dX5_shorten_0 15 4 rfl)
theorem dX5_shorten_16 : decode cX5_shorten 16 = .ok (.invokevirtual 50, 3) := o_182 (bg_dX5_shorten_0 16 182 rfl) (bg_dX5_shorten_0 17 0 rfl) (bg_dX5_shorten_0 18 50 rfl)
theorem dX5_shorten_19 : decode cX5_shorten 19 = .ok (.istore_n 3, 1) := o_62 (bg_dX5_shorten_0 19 62 rfl)
theorem dX5_shorten_20 : decode cX5_shorten 20 = .ok (.aload_n 0, 1) := o_42 (bg_dX5_shorten_0 20 42 rfl)
theorem dX5_shorten_21 : decode cX5_shorten 21 = .ok (.getfield 35, 3) := o_180 (bg_dX5_shorten_0 21 180 rfl) (bg_dX5_shorten_0 22 0 rfl) (bg_dX5_shorten_0 23 35 rfl)
theorem bg_dX5_shorten_24 : bysAt cX5_shorten 24 [28, 46, 18, 89, 159, 0, 46, 42, 180, 0, 35, 28, 46, 42, 180, 0, 32, 27, 46, 96, 42] := bysAt_of (by decide +kernel)
theorem dX5_shorten_24 : decode cX5_shorten 24 = .ok (.iload_n 2, 1) := o_28 (bg_dX5_shorten_24 0 28 rfl)
theorem dX5_shorten_25 : decode cX5_shorten 25 = .ok (.iaload, 1) := o_46 (bg_dX5_shorten_24 1 46 rfl)
theorem dX5_shorten_26 : decode cX5_shorten 26 = .ok (.ldc 89, 2) := o_18 (bg_dX5_shorten_24 2 18 rfl) (bg_dX5_shorten_24 3 89 rfl)
theorem dX5_shorten_28 : decode cX5_shorten 28 = .ok (.if_icmp .eq 46, 3) := o_159 (bg_dX5_shorten_24 4 159 rfl) (bg_dX5_shorten_24 5 0 rfl) (bg_dX5_shorten_24 6 46 rfl) (by decide +kernel)
theorem dX5_shorten_31 : decode cX5_shorten 31 = .ok (.aload_n 0, 1) := o_42 (bg_dX5_shorten_24 7 42 rfl)
theorem dX5_shorten_32 : decode cX5_shorten 32 = .ok (.getfield 35, 3) := o_180 (bg_dX5_shorten_24 8 180 rfl) (bg_dX5_shorten_24 9 0 rfl) (bg_dX5_shorten_24 10 35 rfl)
theorem dX5_shorten_35 : decode cX5_shorten 35 = .ok (.iload_n 2, 1) := o_28 (bg_dX5_shorten_24 11 28 rfl)
theorem dX5_shorten_36 : decode cX5_shorten 36 = .ok (.iaload, 1) := o_46 (bg_dX5_shorten_24 12 46 rfl)
theorem dX5_shorten_37 : decode cX5_shorten 37 = .ok (.aload_n 0, 1) := o_42 (bg_dX5_shorten_24 13 42 rfl)
theorem dX5_shorten_38 : decode cX5_shorten 38 = .ok (.getfield 32, 3) := o_180 (bg_dX5_shorten_24 14 180 rfl) (bg_dX5_shorten_24 15 0 rfl) (bg_dX5_shorten_24 16 32 rfl)
theorem dX5_shorten_41 : decode cX5_shorten 41 = .ok (.iload_n 1, 1) := o_27 (bg_dX5_shorten_24 17 27 rfl)
theorem dX5_shorten_42 : decode cX5_shorten 42 = .ok (.iaload, 1) := o_46 (bg_dX5_shorten_24 18 46 rfl)
theorem dX5_shorten_43 : decode cX5_shorten 43 = .ok (.iadd, 1) := o_96 (bg_dX5_shorten_24 19 96 rfl)
theorem dX5_shorten_44 : decode cX5_shorten 44 = .ok (.aload_n 0, 1) := o_42 (bg_dX5_shorten_24 20 42 rfl)
theorem bg_dX5_shorten_45 : bysAt cX5_shorten 45 [180, 0, 35, 29, 46, 162, 0, 24, 42, 180, 0, 35, 29, 42, 180, 0, 35, 28, 46, 42, 180, 0, 32, 27] := bysAt_of (by decide +kernel)
theorem dX5_shorten_45 : decode cX5_shorten 45 = .ok (.getfield 35, 3) := o_180 (bg_dX5_shorten_45 0 180 rfl) (bg_dX5_shorten_45 1 0 rfl) (bg_dX5_shorten_45 2 35 rfl)
theorem dX5_shorten_48 : decode cX5_shorten 48 = .ok (.iload_n 3, 1) := o_29 (bg_dX5_shorten_45 3 29 rfl)
theorem dX5_shorten_49 : decode cX5_shorten 49 = .ok (.iaload, 1) := o_46 (bg_dX5_shorten_45 4 46 rfl)
theorem dX5_shorten_50 : decode cX5_shorten 50 = .ok (.if_icmp .ge 24, 3) := o_162 (bg_dX5_shorten_45 5 162 rfl) (bg_dX5_shorten_45 6 0 rfl) (bg_dX5_shorten_45 7 24 rfl) (by decide +kernel)
theorem dX5_shorten_53 : decode cX5_shorten 53 = .ok (.aload_n 0, 1) := o_42 (bg_dX5_shorten_45 8 42 rfl)
theorem dX5_shorten_54 : decode cX5_shorten 54 = .ok (.getfield 35, 3) := o_180 (bg_dX5_shorten_45 9 180 rfl) (bg_dX5_shorten_45 10 0 rfl) (bg_dX5_shorten_45 11 35 rfl)
theorem dX5_shorten_57 : decode cX5_shorten 57 = .ok (.iload_n 3, 1) := o_29 (bg_dX5_shorten_45 12 29 rfl)
theorem dX5_shorten_58 : decode cX5_shorten 58 = .ok (.aload_n 0, 1) := o_42 (bg_dX5_shorten_45 13 42 rfl)
theorem dX5_shorten_59 : decode cX5_shorten 59 = .ok (.getfield 35, 3) := o_180 (bg_dX5_shorten_45 14 180 rfl) (bg_dX5_shorten_45 15 0 rfl) (bg_dX5_shorten_45 16 35 rfl)
theorem dX5_shorten_62 : decode cX5_shorten 62 = .ok (.iload_n 2, 1) := o_28 (bg_dX5_shorten_45 17 28 rfl)
theorem dX5_shorten_63 : decode cX5_shorten 63 = .ok (.iaload, 1) := o_46 (bg_dX5_shorten_45 18 46 rfl)
theorem dX5_shorten_64 : decode cX5_shorten 64 = .ok (.aload_n 0, 1) := o_42 (bg_dX5_shorten_45 19 42 rfl)
theorem dX5_shorten_65 : decode cX5_shorten 65 = .ok (.getfield 32, 3) := o_180 (bg_dX5_shorten_45 20 180 rfl) (bg_dX5_shorten_45 21 0 rfl) (bg_dX5_shorten_45 22 32 rfl)
theorem dX5_shorten_68 : decode cX5_shorten 68 = .ok (.iload_n 1, 1) := o_27 (bg_dX5_shorten_45 23 27 rfl)
theorem bg_dX5_shorten_69 : bysAt cX5_shorten 69 [46, 96, 79, 4, 172, 42, 180, 0, 35, 29, 46, 18, 89, 159, 0, 46, 42, 180, 0, 35, 29] := bysAt_of (by decide +kernel)
theorem dX5_shorten_69 : decode cX5_shorten 69 = .ok (.iaload, 1) := o_46 (bg_dX5_shorten_69 0 46 rfl)
theorem dX5_shorten_70 : decode cX5_shorten 70 = .ok (.iadd, 1) := o_96 (bg_dX5_shorten_69 1 96 rfl)
theorem dX5_shorten_71 : decode cX5_shorten 71 = .ok (.iastore, 1) := o_79 (bg_dX5_shorten_69 2 79 rfl)
theorem dX5_shorten_72 : decode cX5_shorten 72 = .ok (.iconst 1, 1) := o_4 (bg_dX5_shorten_69 3 4 rfl)
theorem dX5_shorten_73 : decode cX5_shorten 73 = .ok (.ireturn, 1) := o_172 (bg_dX5_shorten_69 4 172 rfl)
theorem dX5_shorten_74 : decode cX5_shorten 74 = .ok (.aload_n 0, 1) := o_42 (bg_dX5_shorten_69 5 42 rfl)
theorem dX5_shorten_75 : decode cX5_shorten 75 = .ok (.getfield 35, 3) := o_180 (bg_dX5_shorten_69 6 180 rfl) (bg_dX5_shorten_69 7 0 rfl) (bg_dX5_shorten_69 8 35 rfl)
theorem dX5_shorten_78 : decode cX5_shorten 78 = .ok (.iload_n 3, 1) := o_29 (bg_dX5_shorten_69 9 29 rfl)
theorem dX5_shorten_79 : decode cX5_shorten 79 = .ok (.iaload, 1) := o_46 (bg_dX5_shorten_69 10 46 rfl)
theorem dX5_shorten_80 : decode cX5_shorten 80 = .ok (.ldc 89, 2) := o_18 (bg_dX5_shorten_69 11 18 rfl) (bg_dX5_shorten_69 12 89 rfl)
theorem dX5_shorten_82 : decode cX5_shorten 82 = .ok (.if_icmp .eq 46, 3) := o_159 (bg_dX5_shorten_69 13 159 rfl) (bg_dX5_shorten_69 14 0 rfl) (bg_dX5_shorten_69 15 46 rfl) (by decide +kernel)
theorem dX5_shorten_85 : decode cX5_shorten 85 = .ok (.aload_n 0, 1) := o_42 (bg_dX5_shorten_69 16 42 rfl)
theorem dX5_shorten_86 : decode cX5_shorten 86 = .ok (.getfield 35, 3) := o_180 (bg_dX5_shorten_69 17 180 rfl) (bg_dX5_shorten_69 18 0 rfl) (bg_dX5_shorten_69 19 35 rfl)
theorem dX5_shorten_89 : decode cX5_shorten 89 = .ok (.iload_n 3, 1) := o_29 (bg_dX5_shorten_69 20 29 rfl)
theorem bg_dX5_shorten_90 : bysAt cX5_shorten 90 [46, 42, 180, 0, 32, 27, 46, 96, 42, 180, 0, 35, 28, 46, 162, 0, 24, 42, 180, 0, 35, 28] := bysAt_of (by decide +kernel)
theorem dX5_shorten_90 : decode cX5_shorten 90 = .ok (.iaload, 1) := o_46 (bg_dX5_shorten_90 0 46 rfl)
theorem dX5_shorten_91 : decode cX5_shorten 91 = .ok (.aload_n 0, 1) := o_42 (bg_dX5_shorten_90 1 42 rfl)
theorem dX5_shorten_92 : decode cX5_shorten 92 = .ok (.getfield 32, 3) := o_180 (bg_dX5_shorten_90 2 180 rfl) (bg_dX5_shorten_90 3 0 rfl) (bg_dX5_shorten_90 4 32 rfl)
theorem dX5_shorten_95 : decode cX5_shorten 95 = .ok (.iload_n 1, 1) := o_27 (bg_dX5_shorten_90 5 27 rfl)
theorem dX5_shorten_96 : decode cX5_shorten 96 = .ok (.iaload, 1) := o_46 (bg_dX5_shorten_90 6 46 rfl)
theorem dX5_shorten_97 : decode cX5_shorten 97 = .ok (.iadd, 1) := o_96 (bg_dX5_shorten_90 7 96 rfl)
theorem dX5_shorten_98 : decode cX5_shorten 98 = .ok (.aload_n 0, 1) := o_42 (bg_dX5_shorten_90 8 42 rfl)
theorem dX5_shorten_99 : decode cX5_shorten 99 = .ok (.getfield 35, 3) := o_180 (bg_dX5_shorten_90 9 180 rfl) (bg_dX5_shorten_90 10 0 rfl) (bg_dX5_shorten_90 11 35 rfl)
theorem dX5_shorten_102 : decode cX5_shorten 102 = .ok (.iload_n 2, 1) := o_28 (bg_dX5_shorten_90 12 28 rfl)
theorem dX5_shorten_103 : decode cX5_shorten 103 = .ok (.iaload, 1) := o_46 (bg_dX5_shorten_90 13 46 rfl)
theorem dX5_shorten_104 : decode cX5_shorten 104 = .ok (.if_icmp .ge 24, 3) := o_162 (bg_dX5_shorten_90 14 162 rfl) (bg_dX5_shorten_90 15 0 rfl) (bg_dX5_shorten_90 16 24 rfl) (by decide +kernel)
theorem dX5_shorten_107 : decode cX5_shorten 107 = .ok (.aload_n 0, 1) := o_42 (bg_dX5_shorten_90 17 42 rfl)
theorem dX5_shorten_108 : decode cX5_shorten 108 = .ok (.getfield 35, 3) := o_180 (bg_dX5_shorten_90 18 180 rfl) (bg_dX5_shorten_90 19 0 rfl) (bg_dX5_shorten_90 20 35 rfl)
theorem dX5_shorten_111 : decode cX5_shorten 111 = .ok (.iload_n 2, 1) := o_28 (bg_dX5_shorten_90 21 28 rfl)
theorem bg_dX5_shorten_112 : bysAt cX5_shorten 112 [42, 180, 0, 35, 29, 46, 42, 180, 0, 32, 27, 46, 96, 79, 4, 172, 3, 172] := bysAt_of (by decide +kernel)
theorem dX5_shorten_112 : decode cX5_shorten 112 = .ok (.aload_n 0, 1) := o_42 (bg_dX5_shorten_112 0 42 rfl)
theorem dX5_shorten_113 : decode cX5_shorten 113 = .ok (.getfield 35, 3) := o_180 (bg_dX5_shorten_112 1 180 rfl) (bg_dX5_shorten_112 2 0 rfl) (bg_dX5_shorten_112 3 35 rfl)
theorem dX5_shorten_116 : decode cX5_shorten 116 = .ok (.iload_n 3, 1) := o_29 (bg_dX5_shorten_112 4 29 rfl)
theorem dX5_shorten_117 : decode cX5_shorten 117 = .ok (.iaload, 1) := o_46 (bg_dX5_shorten_112 5 46 rfl)
theorem dX5_shorten_118 : decode cX5_shorten 118 = .ok (.aload_n 0, 1) := o_42 (bg_dX5_shorten_112 6 42 rfl)
theorem dX5_shorten_119 : decode cX5_shorten 119 = .ok (.getfield 32, 3) := o_180 (bg_dX5_shorten_112 7 180 rfl) (bg_dX5_shorten_112 8 0 rfl) (bg_dX5_shorten_112 9 32 rfl)
theorem dX5_shorten_122 : decode cX5_shorten 122 = .ok (.iload_n 1, 1) := o_27 (bg_dX5_shorten_112 10 27 rfl)
theorem dX5_shorten_123 : decode cX5_shorten 123 = .ok (.iaload, 1) := o_46 (bg_dX5_shorten_112 11 46 rfl)
theorem dX5_shorten_124 : decode cX5_shorten 124 = .ok (.iadd, 1) := o_96 (bg_dX5_shorten_112 12 96 rfl)
theorem dX5_shorten_125 : decode cX5_shorten 125 = .ok (.iastore, 1) := o_79 (bg_dX5_shorten_112 13 79 rfl)
theorem dX5_shorten_126 : decode cX5_shorten 126 = .ok (.iconst 1, 1) := o_4 (bg_dX5_shorten_112 14 4 rfl)
theorem dX5_shorten_127 : decode cX5_shorten 127 = .ok (.ireturn, 1) := o_172 (bg_dX5_shorten_112 15 172 rfl)
theorem dX5_shorten_128 : decode cX5_shorten 128 = .ok (.iconst 0, 1) := o_3 (bg_dX5_shorten_112 16 3 rfl)
theorem dX5_shorten_129 : decode cX5_shorten 129 = .ok (.ireturn, 1) := o_172 (bg_dX5_shorten_112 17 172 rfl)
theorem bg_dX5_spread_0 : bysAt cX5_spread 0 [3, 61, 28, 16, 16, 162, 0, 17, 42, 180, 0, 35, 28, 18, 89, 79, 132, 2, 1, 167, 255, 239, 42, 180, 0, 35, 27] := bysAt_of (by decide +kernel)
theorem dX5_spread_0 : decode cX5_spread 0 = .ok (.iconst 0, 1) := o_3 (bg_dX5_spread_0 0 3 rfl)
theorem dX5_spread_1 : decode cX5_spread 1 = .ok (.istore_n 2, 1) := o_61 (bg_dX5_spread_0 1 61 rfl)
theorem dX5_spread_2 : decode cX5_spread 2 = .ok (.iload_n 2, 1) := o_28 (bg_dX5_spread_0 2 28 rfl)
theorem dX5_spread_3 : decode cX5_spread 3 = .ok (.bipush 16, 2) := o_16 (bg_dX5_spread_0 3 16 rfl) (bg_dX5_spread_0 4 16 rfl) (by decide +kernel)
theorem dX5_spread_5 : decode cX5_spread 5 = .ok (.if_icmp .ge 17, 3) := o_162 (bg_dX5_spread_0 5 162 rfl) (bg_dX5_spread_0 6 0 rfl) (bg_dX5_spread_0 7 17 rfl) (by decide +kernel)
theorem dX5_spread_8 : decode cX5_spread 8 = .ok (.aload_n 0, 1) := o_42 (bg_dX5_spread_0 8 42 rfl)
theorem dX5_spread_9 : decode cX5_spread 9 = .ok (.getfield 35, 3) := o_180 (bg_dX5_spread_0 9 180 rfl) (bg_dX5_spread_0 10 0 rfl) (bg_dX5_spread_0 11 35 rfl)
theorem dX5_spread_12 : decode cX5_spread 12 = .ok (.iload_n 2, 1) := o_28 (bg_dX5_spread_0 12 28 rfl)
theorem dX5_spread_13 : decode cX5_spread 13 = .ok (.ldc 89, 2) := o_18 (bg_dX5_spread_0 13 18 rfl) (bg_dX5_spread_0 14 89 rfl)
theorem dX5_spread_15 : decode cX5_spread 15 = .ok (.iastore, 1) := o_79 (bg_dX5_spread_0 15 79 rfl)
theorem dX5_spread_19 : decode cX5_spread 19 = .ok (.goto (-17), 3) := o_167 (bg_dX5_spread_0 19 167 rfl) (bg_dX5_spread_0 20 255 rfl) (bg_dX5_spread_0 21 239 rfl) (by decide +kernel)
theorem dX5_spread_22 : decode cX5_spread 22 = .ok (.aload_n 0, 1) := o_42 (bg_dX5_spread_0 22 42 rfl)
theorem dX5_spread_23 : decode cX5_spread 23 = .ok (.getfield 35, 3) := o_180 (bg_dX5_spread_0 23 180 rfl) (bg_dX5_spread_0 24 0 rfl) (bg_dX5_spread_0 25 35 rfl)
theorem dX5_spread_26 : decode cX5_spread 26 = .ok (.iload_n 1, 1) := o_27 (bg_dX5_spread_0 26 27 rfl)
theorem bg_dX5_spread_27 : bysAt cX5_spread 27 [3, 79, 4, 61, 3, 62, 29, 16, 16, 162, 0, 60, 28, 153, 0, 56, 3, 61, 3] := bysAt_of (by decide +kernel)
theorem dX5_spread_27 : decode cX5_spread 27 = .ok (.iconst 0, 1) := o_3 (bg_dX5_spread_27 0 3 rfl)
theorem dX5_spread_28 : decode cX5_spread 28 = .ok (.iastore, 1) := o_79 (bg_dX5_spread_27 1 79 rfl)
theorem dX5_spread_29 : decode cX5_spread 29 = .ok (.iconst 1, 1) := o_4 (bg_dX5_spread_27 2 4 rfl)
theorem dX5_spread_30 : decode cX5_spread 30 = .ok (.istore_n 2, 1) := o_61 (bg_dX5_spread_27 3 61 rfl)
theorem dX5_spread_31 : decode cX5_spread 31 = .ok (.iconst 0, 1) := o_3 (bg_dX5_spread_27 4 3 rfl)
theorem dX5_spread_32 : decode cX5_spread 32 = .ok (.istore_n 3, 1) := o_62 (bg_dX5_spread_27 5 62 rfl)
theorem dX5_spread_33 : decode cX5_spread 33 = .ok (.iload_n 3, 1) := o_29 (bg_dX5_spread_27 6 29 rfl)
theorem dX5_spread_34 : decode cX5_spread 34 = .ok (.bipush 16, 2) := o_16 (bg_dX5_spread_27 7 16 rfl) (bg_dX5_spread_27 8 16 rfl) (by decide +kernel)
theorem dX5_spread_36 : decode cX5_spread 36 = .ok (.if_icmp .ge 60, 3) := o_162 (bg_dX5_spread_27 9 162 rfl) (bg_dX5_spread_27 10 0 rfl) (bg_dX5_spread_27 11 60 rfl) (by decide +kernel)
theorem dX5_spread_39 : decode cX5_spread 39 = .ok (.iload_n 2, 1) := o_28 (bg_dX5_spread_27 12 28 rfl)
theorem dX5_spread_40 : decode cX5_spread 40 = .ok (.ifCond .eq 56, 3) := o_153 (bg_dX5_spread_27 13 153 rfl) (bg_dX5_spread_27 14 0 rfl) (bg_dX5_spread_27 15 56 rfl) (by decide +kernel)
theorem dX5_spread_43 : decode cX5_spread 43 = .ok (.iconst 0, 1) := o_3 (bg_dX5_spread_27 16 3 rfl)
theorem dX5_spread_44 : decode cX5_spread 44 = .ok (.istore_n 2, 1) := o_61 (bg_dX5_spread_27 17 61 rfl)
theorem dX5_spread_45 : decode cX5_spread 45 = .ok (.iconst 0, 1) := o_3 (bg_dX5_spread_27 18 3 rfl)
theorem bg_dX5_spread_46 : bysAt cX5_spread 46 [54, 4, 21, 4, 42, 180, 0, 9, 180, 0, 45, 3, 46, 162, 0, 31, 42, 180, 0, 26, 21, 4, 46, 2, 159, 0, 14] := bysAt_of (by decide +kernel)
theorem dX5_spread_46 : decode cX5_spread 46 = .ok (.istore 4, 2) := o_54 (bg_dX5_spread_46 0 54 rfl) (bg_dX5_spread_46 1 4 rfl)
theorem dX5_spread_48 : decode cX5_spread 48 = .ok (.iload 4, 2) := o_21 (bg_dX5_spread_46 2 21 rfl) (bg_dX5_spread_46 3 4 rfl)
theorem dX5_spread_50 : decode cX5_spread 50 = .ok (.aload_n 0, 1) := o_42 (bg_dX5_spread_46 4 42 rfl)
theorem dX5_spread_51 : decode cX5_spread 51 = .ok (.getfield 9, 3) := o_180 (bg_dX5_spread_46 5 180 rfl) (bg_dX5_spread_46 6 0 rfl) (bg_dX5_spread_46 7 9 rfl)
theorem dX5_spread_54 : decode cX5_spread 54 = .ok (.getfield 45, 3) := o_180 (bg_dX5_spread_46 8 180 rfl) (bg_dX5_spread_46 9 0 rfl) (bg_dX5_spread_46 10 45 rfl)
theorem dX5_spread_57 : decode cX5_spread 57 = .ok (.iconst 0, 1) := o_3 (bg_dX5_spread_46 11 3 rfl)
theorem dX5_spread_58 : decode cX5_spread 58 = .ok (.iaload, 1) := o_46 (bg_dX5_spread_46 12 46 rfl)
theorem dX5_spread_59 : decode cX5_spread 59 = .ok (.if_icmp .ge 31, 3) := o_162 (bg_dX5_spread_46 13 162 rfl) (bg_dX5_spread_46 14 0 rfl) (bg_dX5_spread_46 15 31 rfl) (by decide +kernel)
theorem dX5_spread_62 : decode cX5_spread 62 = .ok (.aload_n 0, 1) := o_42 (bg_dX5_spread_46 16 42 rfl)
theorem dX5_spread_63 : decode cX5_spread 63 = .ok (.getfield 26, 3) := o_180 (bg_dX5_spread_46 17 180 rfl) (bg_dX5_spread_46 18 0 rfl) (bg_dX5_spread_46 19 26 rfl)
theorem dX5_spread_66 : decode cX5_spread 66 = .ok (.iload 4, 2) := o_21 (bg_dX5_spread_46 20 21 rfl) (bg_dX5_spread_46 21 4 rfl)
theorem dX5_spread_68 : decode cX5_spread 68 = .ok (.iaload, 1) := o_46 (bg_dX5_spread_46 22 46 rfl)
theorem dX5_spread_69 : decode cX5_spread 69 = .ok (.iconst (-1), 1) := o_2 (bg_dX5_spread_46 23 2 rfl)
theorem dX5_spread_70 : decode cX5_spread 70 = .ok (.if_icmp .eq 14, 3) := o_159 (bg_dX5_spread_46 24 159 rfl) (bg_dX5_spread_46 25 0 rfl) (bg_dX5_spread_46 26 14 rfl) (by decide +kernel)
theorem bg_dX5_spread_73 : bysAt cX5_spread 73 [42, 21, 4, 182, 0, 99, 153, 0, 5, 4, 61, 132, 4, 1, 167, 255, 217, 132, 3, 1, 167, 255, 196, 177] := bysAt_of (by decide +kernel)
theorem dX5_spread_73 : decode cX5_spread 73 = .ok (.aload_n 0, 1) := o_42 (bg_dX5_spread_73 0 42 rfl)
theorem dX5_spread_74 : decode cX5_spread 74 = .ok (.iload 4, 2) := o_21 (bg_dX5_spread_73 1 21 rfl) (bg_dX5_spread_73 2 4 rfl)
theorem dX5_spread_76 : decode cX5_spread 76 = .ok (.invokevirtual 99, 3) := o_182 (bg_dX5_spread_73 3 182 rfl) (bg_dX5_spread_73 4 0 rfl) (bg_dX5_spread_73 5 99 rfl)
theorem dX5_spread_79 : decode cX5_spread 79 = .ok (.ifCond .eq 5, 3) := o_153 (bg_dX5_spread_73 6 153 rfl) (bg_dX5_spread_73 7 0 rfl) (bg_dX5_spread_73 8 5 rfl) (by decide +kernel)
theorem dX5_spread_82 : decode cX5_spread 82 = .ok (.iconst 1, 1) := o_4 (bg_dX5_spread_73 9 4 rfl)
theorem dX5_spread_83 : decode cX5_spread 83 = .ok (.istore_n 2, 1) := o_61 (bg_dX5_spread_73 10 61 rfl)
theorem dX5_spread_87 : decode cX5_spread 87 = .ok (.goto (-39), 3) := o_167 (bg_dX5_spread_73 14 167 rfl) (bg_dX5_spread_73 15 255 rfl) (bg_dX5_spread_73 16 217 rfl) (by decide +kernel)
theorem dX5_spread_93 : decode cX5_spread 93 = .ok (.goto (-60), 3) := o_167 (bg_dX5_spread_73 20 167 rfl) (bg_dX5_spread_73 21 255 rfl) (bg_dX5_spread_73 22 196 rfl) (by decide +kernel)
theorem dX5_spread_96 : decode cX5_spread 96 = .ok (.return_, 1) := o_177 (bg_dX5_spread_73 23 177 rfl)
theorem bg_dX5_standProps_0 : bysAt cX5_standProps 0 [3, 61, 28, 42, 180, 0, 9, 180, 0, 45, 4, 46, 162, 0, 49, 42, 180, 0, 9, 28, 3, 182, 0, 58] := bysAt_of (by decide +kernel)
theorem dX5_standProps_0 : decode cX5_standProps 0 = .ok (.iconst 0, 1) := o_3 (bg_dX5_standProps_0 0 3 rfl)
theorem dX5_standProps_1 : decode cX5_standProps 1 = .ok (.istore_n 2, 1) := o_61 (bg_dX5_standProps_0 1 61 rfl)
theorem dX5_standProps_2 : decode cX5_standProps 2 = .ok (.iload_n 2, 1) := o_28 (bg_dX5_standProps_0 2 28 rfl)
theorem dX5_standProps_3 : decode cX5_standProps 3 = .ok (.aload_n 0, 1) := o_42 (bg_dX5_standProps_0 3 42 rfl)
theorem dX5_standProps_4 : decode cX5_standProps 4 = .ok (.getfield 9, 3) := o_180 (bg_dX5_standProps_0 4 180 rfl) (bg_dX5_standProps_0 5 0 rfl) (bg_dX5_standProps_0 6 9 rfl)
theorem dX5_standProps_7 : decode cX5_standProps 7 = .ok (.getfield 45, 3) := o_180 (bg_dX5_standProps_0 7 180 rfl) (bg_dX5_standProps_0 8 0 rfl) (bg_dX5_standProps_0 9 45 rfl)
theorem dX5_standProps_10 : decode cX5_standProps 10 = .ok (.iconst 1, 1) := o_4 (bg_dX5_standProps_0 10 4 rfl)
theorem dX5_standProps_11 : decode cX5_standProps 11 = .ok (.iaload, 1) := o_46 (bg_dX5_standProps_0 11 46 rfl)
theorem dX5_standProps_12 : decode cX5_standProps 12 = .ok (.if_icmp .ge 49, 3) := o_162 (bg_dX5_standProps_0 12 162 rfl) (bg_dX5_standProps_0 13 0 rfl) (bg_dX5_standProps_0 14 49 rfl) (by decide +kernel)
theorem dX5_standProps_15 : decode cX5_standProps 15 = .ok (.aload_n 0, 1) := o_42 (bg_dX5_standProps_0 15 42 rfl)
theorem dX5_standProps_16 : decode cX5_standProps 16 = .ok (.getfield 9, 3) := o_180 (bg_dX5_standProps_0 16 180 rfl) (bg_dX5_standProps_0 17 0 rfl) (bg_dX5_standProps_0 18 9 rfl)
theorem dX5_standProps_19 : decode cX5_standProps 19 = .ok (.iload_n 2, 1) := o_28 (bg_dX5_standProps_0 19 28 rfl)
theorem dX5_standProps_20 : decode cX5_standProps 20 = .ok (.iconst 0, 1) := o_3 (bg_dX5_standProps_0 20 3 rfl)
theorem dX5_standProps_21 : decode cX5_standProps 21 = .ok (.invokevirtual 58, 3) := o_182 (bg_dX5_standProps_0 21 182 rfl) (bg_dX5_standProps_0 22 0 rfl) (bg_dX5_standProps_0 23 58 rfl)
theorem bg_dX5_standProps_24 : bysAt cX5_standProps 24 [27, 160, 0, 30, 42, 180, 0, 18, 42, 180, 0, 9, 28, 182, 0, 61, 4, 160, 0, 14, 42, 180, 0, 9, 28, 16, 7] := bysAt_of (by decide +kernel)
theorem dX5_standProps_24 : decode cX5_standProps 24 = .ok (.iload_n 1, 1) := o_27 (bg_dX5_standProps_24 0 27 rfl)
theorem dX5_standProps_25 : decode cX5_standProps 25 = .ok (.if_icmp .ne 30, 3) := o_160 (bg_dX5_standProps_24 1 160 rfl) (bg_dX5_standProps_24 2 0 rfl) (bg_dX5_standProps_24 3 30 rfl) (by decide +kernel)
theorem dX5_standProps_28 : decode cX5_standProps 28 = .ok (.aload_n 0, 1) := o_42 (bg_dX5_standProps_24 4 42 rfl)
theorem dX5_standProps_29 : decode cX5_standProps 29 = .ok (.getfield 18, 3) := o_180 (bg_dX5_standProps_24 5 180 rfl) (bg_dX5_standProps_24 6 0 rfl) (bg_dX5_standProps_24 7 18 rfl)
theorem dX5_standProps_32 : decode cX5_standProps 32 = .ok (.aload_n 0, 1) := o_42 (bg_dX5_standProps_24 8 42 rfl)
theorem dX5_standProps_33 : decode cX5_standProps 33 = .ok (.getfield 9, 3) := o_180 (bg_dX5_standProps_24 9 180 rfl) (bg_dX5_standProps_24 10 0 rfl) (bg_dX5_standProps_24 11 9 rfl)
theorem dX5_standProps_36 : decode cX5_standProps 36 = .ok (.iload_n 2, 1) := o_28 (bg_dX5_standProps_24 12 28 rfl)
theorem dX5_standProps_37 : decode cX5_standProps 37 = .ok (.invokevirtual 61, 3) := o_182 (bg_dX5_standProps_24 13 182 rfl) (bg_dX5_standProps_24 14 0 rfl) (bg_dX5_standProps_24 15 61 rfl)
theorem dX5_standProps_40 : decode cX5_standProps 40 = .ok (.iconst 1, 1) := o_4 (bg_dX5_standProps_24 16 4 rfl)
theorem dX5_standProps_41 : decode cX5_standProps 41 = .ok (.if_icmp .ne 14, 3) := o_160 (bg_dX5_standProps_24 17 160 rfl) (bg_dX5_standProps_24 18 0 rfl) (bg_dX5_standProps_24 19 14 rfl) (by decide +kernel)
theorem dX5_standProps_44 : decode cX5_standProps 44 = .ok (.aload_n 0, 1) := o_42 (bg_dX5_standProps_24 20 42 rfl)
theorem dX5_standProps_45 : decode cX5_standProps 45 = .ok (.getfield 9, 3) := o_180 (bg_dX5_standProps_24 21 180 rfl) (bg_dX5_standProps_24 22 0 rfl) (bg_dX5_standProps_24 23 9 rfl)
theorem dX5_standProps_48 : decode cX5_standProps 48 = .ok (.iload_n 2, 1) := o_28 (bg_dX5_standProps_24 24 28 rfl)
theorem dX5_standProps_49 : decode cX5_standProps 49 = .ok (.bipush 7, 2) := o_16 (bg_dX5_standProps_24 25 16 rfl) (bg_dX5_standProps_24 26 7 rfl) (by decide +kernel)
theorem bg_dX5_standProps_51 : bysAt cX5_standProps 51 [4, 182, 0, 106, 132, 2, 1, 167, 255, 200, 177] := bysAt_of (by decide +kernel)
theorem dX5_standProps_51 : decode cX5_standProps 51 = .ok (.iconst 1, 1) := o_4 (bg_dX5_standProps_51 0 4 rfl)
theorem dX5_standProps_52 : decode cX5_standProps 52 = .ok (.invokevirtual 106, 3) := o_182 (bg_dX5_standProps_51 1 182 rfl) (bg_dX5_standProps_51 2 0 rfl) (bg_dX5_standProps_51 3 106 rfl)
theorem dX5_standProps_58 : decode cX5_standProps 58 = .ok (.goto (-56), 3) := o_167 (bg_dX5_standProps_51 7 167 rfl) (bg_dX5_standProps_51 8 255 rfl) (bg_dX5_standProps_51 9 200 rfl) (by decide +kernel)
theorem dX5_standProps_61 : decode cX5_standProps 61 = .ok (.return_, 1) := o_177 (bg_dX5_standProps_51 10 177 rfl)
theorem bg_dX5_survey_0 : bysAt cX5_survey 0 [42, 180, 0, 18, 42, 180, 0, 9, 27, 28, 182, 0, 41, 3, 62, 29, 42, 180, 0, 9, 180, 0, 45, 3] := bysAt_of (by decide +kernel)
theorem dX5_survey_0 : decode cX5_survey 0 = .ok (.aload_n 0, 1) := o_42 (bg_dX5_survey_0 0 42 rfl)
theorem dX5_survey_1 : decode cX5_survey 1 = .ok (.getfield 18, 3) := o_180 (bg_dX5_survey_0 1 180 rfl) (bg_dX5_survey_0 2 0 rfl) (bg_dX5_survey_0 3 18 rfl)
theorem dX5_survey_4 : decode cX5_survey 4 = .ok (.aload_n 0, 1) := o_42 (bg_dX5_survey_0 4 42 rfl)
theorem dX5_survey_5 : decode cX5_survey 5 = .ok (.getfield 9, 3) := o_180 (bg_dX5_survey_0 5 180 rfl) (bg_dX5_survey_0 6 0 rfl) (bg_dX5_survey_0 7 9 rfl)
theorem dX5_survey_8 : decode cX5_survey 8 = .ok (.iload_n 1, 1) := o_27 (bg_dX5_survey_0 8 27 rfl)
theorem dX5_survey_9 : decode cX5_survey 9 = .ok (.iload_n 2, 1) := o_28 (bg_dX5_survey_0 9 28 rfl)
theorem dX5_survey_10 : decode cX5_survey 10 = .ok (.invokevirtual 41, 3) := o_182 (bg_dX5_survey_0 10 182 rfl) (bg_dX5_survey_0 11 0 rfl) (bg_dX5_survey_0 12 41 rfl)
theorem dX5_survey_13 : decode cX5_survey 13 = .ok (.iconst 0, 1) := o_3 (bg_dX5_survey_0 13 3 rfl)
theorem dX5_survey_14 : decode cX5_survey 14 = .ok (.istore_n 3, 1) := o_62 (bg_dX5_survey_0 14 62 rfl)
theorem dX5_survey_15 : decode cX5_survey 15 = .ok (.iload_n 3, 1) := o_29 (bg_dX5_survey_0 15 29 rfl)
theorem dX5_survey_16 : decode cX5_survey 16 = .ok (.aload_n 0, 1) := o_42 (bg_dX5_survey_0 16 42 rfl)
theorem dX5_survey_17 : decode cX5_survey 17 = .ok (.getfield 9, 3) := o_180 (bg_dX5_survey_0 17 180 rfl) (bg_dX5_survey_0 18 0 rfl) (bg_dX5_survey_0 19 9 rfl)
theorem dX5_survey_20 : decode cX5_survey 20 = .ok (.getfield 45, 3) := o_180 (bg_dX5_survey_0 20 180 rfl) (bg_dX5_survey_0 21 0 rfl) (bg_dX5_survey_0 22 45 rfl)
theorem dX5_survey_23 : decode cX5_survey 23 = .ok (.iconst 0, 1) := o_3 (bg_dX5_survey_0 23 3 rfl)
theorem bg_dX5_survey_24 : bysAt cX5_survey 24 [46, 162, 0, 71, 42, 180, 0, 9, 29, 16, 6, 182, 0, 50, 154, 0, 26, 42, 180, 0, 9, 29, 7, 182, 0, 50, 42] := bysAt_of (by decide +kernel)
theorem dX5_survey_24 : decode cX5_survey 24 = .ok (.iaload, 1) := o_46 (bg_dX5_survey_24 0 46 rfl)
theorem dX5_survey_25 : decode cX5_survey 25 = .ok (.if_icmp .ge 71, 3) := o_162 (bg_dX5_survey_24 1 162 rfl) (bg_dX5_survey_24 2 0 rfl) (bg_dX5_survey_24 3 71 rfl) (by decide +kernel)
theorem dX5_survey_28 : decode cX5_survey 28 = .ok (.aload_n 0, 1) := o_42 (bg_dX5_survey_24 4 42 rfl)
theorem dX5_survey_29 : decode cX5_survey 29 = .ok (.getfield 9, 3) := o_180 (bg_dX5_survey_24 5 180 rfl) (bg_dX5_survey_24 6 0 rfl) (bg_dX5_survey_24 7 9 rfl)
theorem dX5_survey_32 : decode cX5_survey 32 = .ok (.iload_n 3, 1) := o_29 (bg_dX5_survey_24 8 29 rfl)
theorem dX5_survey_33 : decode cX5_survey 33 = .ok (.bipush 6, 2) := o_16 (bg_dX5_survey_24 9 16 rfl) (bg_dX5_survey_24 10 6 rfl) (by decide +kernel)
theorem dX5_survey_35 : decode cX5_survey 35 = .ok (.invokevirtual 50, 3) := o_182 (bg_dX5_survey_24 11 182 rfl) (bg_dX5_survey_24 12 0 rfl) (bg_dX5_survey_24 13 50 rfl)
theorem dX5_survey_38 : decode cX5_survey 38 = .ok (.ifCond .ne 26, 3) := o_154 (bg_dX5_survey_24 14 154 rfl) (bg_dX5_survey_24 15 0 rfl) (bg_dX5_survey_24 16 26 rfl) (by decide +kernel)
theorem dX5_survey_41 : decode cX5_survey 41 = .ok (.aload_n 0, 1) := o_42 (bg_dX5_survey_24 17 42 rfl)
theorem dX5_survey_42 : decode cX5_survey 42 = .ok (.getfield 9, 3) := o_180 (bg_dX5_survey_24 18 180 rfl) (bg_dX5_survey_24 19 0 rfl) (bg_dX5_survey_24 20 9 rfl)
theorem dX5_survey_45 : decode cX5_survey 45 = .ok (.iload_n 3, 1) := o_29 (bg_dX5_survey_24 21 29 rfl)
theorem dX5_survey_46 : decode cX5_survey 46 = .ok (.iconst 4, 1) := o_7 (bg_dX5_survey_24 22 7 rfl)
theorem dX5_survey_47 : decode cX5_survey 47 = .ok (.invokevirtual 50, 3) := o_182 (bg_dX5_survey_24 23 182 rfl) (bg_dX5_survey_24 24 0 rfl) (bg_dX5_survey_24 25 50 rfl)
theorem dX5_survey_50 : decode cX5_survey 50 = .ok (.aload_n 0, 1) := o_42 (bg_dX5_survey_24 26 42 rfl)
theorem bg_dX5_survey_51 : bysAt cX5_survey 51 [180, 0, 18, 180, 0, 54, 161, 0, 7, 4, 167, 0, 4, 3, 54, 4, 42, 180, 0, 26, 29, 21, 4, 153, 0, 7, 3, 167, 0, 4] := bysAt_of (by decide +kernel)
theorem dX5_survey_51 : decode cX5_survey 51 = .ok (.getfield 18, 3) := o_180 (bg_dX5_survey_51 0 180 rfl) (bg_dX5_survey_51 1 0 rfl) (bg_dX5_survey_51 2 18 rfl)
theorem dX5_survey_54 : decode cX5_survey 54 = .ok (.getfield 54, 3) := o_180 (bg_dX5_survey_51 3 180 rfl) (bg_dX5_survey_51 4 0 rfl) (bg_dX5_survey_51 5 54 rfl)
theorem dX5_survey_57 : decode cX5_survey 57 = .ok (.if_icmp .lt 7, 3) := o_161 (bg_dX5_survey_51 6 161 rfl) (bg_dX5_survey_51 7 0 rfl) (bg_dX5_survey_51 8 7 rfl) (by decide +kernel)
theorem dX5_survey_60 : decode cX5_survey 60 = .ok (.iconst 1, 1) := o_4 (bg_dX5_survey_51 9 4 rfl)
theorem dX5_survey_61 : decode cX5_survey 61 = .ok (.goto 4, 3) := o_167 (bg_dX5_survey_51 10 167 rfl) (bg_dX5_survey_51 11 0 rfl) (bg_dX5_survey_51 12 4 rfl) (by decide +kernel)
theorem dX5_survey_64 : decode cX5_survey 64 = .ok (.iconst 0, 1) := o_3 (bg_dX5_survey_51 13 3 rfl)
theorem dX5_survey_65 : decode cX5_survey 65 = .ok (.istore 4, 2) := o_54 (bg_dX5_survey_51 14 54 rfl) (bg_dX5_survey_51 15 4 rfl)
theorem dX5_survey_67 : decode cX5_survey 67 = .ok (.aload_n 0, 1) := o_42 (bg_dX5_survey_51 16 42 rfl)
theorem dX5_survey_68 : decode cX5_survey 68 = .ok (.getfield 26, 3) := o_180 (bg_dX5_survey_51 17 180 rfl) (bg_dX5_survey_51 18 0 rfl) (bg_dX5_survey_51 19 26 rfl)
theorem dX5_survey_71 : decode cX5_survey 71 = .ok (.iload_n 3, 1) := o_29 (bg_dX5_survey_51 20 29 rfl)
theorem dX5_survey_72 : decode cX5_survey 72 = .ok (.iload 4, 2) := o_21 (bg_dX5_survey_51 21 21 rfl) (bg_dX5_survey_51 22 4 rfl)
theorem dX5_survey_74 : decode cX5_survey 74 = .ok (.ifCond .eq 7, 3) := o_153 (bg_dX5_survey_51 23 153 rfl) (bg_dX5_survey_51 24 0 rfl) (bg_dX5_survey_51 25 7 rfl) (by decide +kernel)
theorem dX5_survey_77 : decode cX5_survey 77 = .ok (.iconst 0, 1) := o_3 (bg_dX5_survey_51 26 3 rfl)
theorem dX5_survey_78 : decode cX5_survey 78 = .ok (.goto 4, 3) := o_167 (bg_dX5_survey_51 27 167 rfl) (bg_dX5_survey_51 28 0 rfl) (bg_dX5_survey_51 29 4 rfl) (by decide +kernel)
theorem bg_dX5_survey_81 : bysAt cX5_survey 81 [2, 79, 42, 180, 0, 29, 29, 3, 79, 132, 3, 1, 167, 255, 178, 3, 62, 29, 42, 180, 0, 9, 180, 0, 45] := bysAt_of (by decide +kernel)
theorem dX5_survey_81 : decode cX5_survey 81 = .ok (.iconst (-1), 1) := o_2 (bg_dX5_survey_81 0 2 rfl)
theorem dX5_survey_82 : decode cX5_survey 82 = .ok (.iastore, 1) := o_79 (bg_dX5_survey_81 1 79 rfl)
theorem dX5_survey_83 : decode cX5_survey 83 = .ok (.aload_n 0, 1) := o_42 (bg_dX5_survey_81 2 42 rfl)
theorem dX5_survey_84 : decode cX5_survey 84 = .ok (.getfield 29, 3) := o_180 (bg_dX5_survey_81 3 180 rfl) (bg_dX5_survey_81 4 0 rfl) (bg_dX5_survey_81 5 29 rfl)
theorem dX5_survey_87 : decode cX5_survey 87 = .ok (.iload_n 3, 1) := o_29 (bg_dX5_survey_81 6 29 rfl)
theorem dX5_survey_88 : decode cX5_survey 88 = .ok (.iconst 0, 1) := o_3 (bg_dX5_survey_81 7 3 rfl)
theorem dX5_survey_89 : decode cX5_survey 89 = .ok (.iastore, 1) := o_79 (bg_dX5_survey_81 8 79 rfl)
theorem dX5_survey_93 : decode cX5_survey 93 = .ok (.goto (-78), 3) := o_167 (bg_dX5_survey_81 12 167 rfl) (bg_dX5_survey_81 13 255 rfl) (bg_dX5_survey_81 14 178 rfl) (by decide +kernel)
theorem dX5_survey_96 : decode cX5_survey 96 = .ok (.iconst 0, 1) := o_3 (bg_dX5_survey_81 15 3 rfl)
theorem dX5_survey_97 : decode cX5_survey 97 = .ok (.istore_n 3, 1) := o_62 (bg_dX5_survey_81 16 62 rfl)
theorem dX5_survey_98 : decode cX5_survey 98 = .ok (.iload_n 3, 1) := o_29 (bg_dX5_survey_81 17 29 rfl)
theorem dX5_survey_99 : decode cX5_survey 99 = .ok (.aload_n 0, 1) := o_42 (bg_dX5_survey_81 18 42 rfl)
theorem dX5_survey_100 : decode cX5_survey 100 = .ok (.getfield 9, 3) := o_180 (bg_dX5_survey_81 19 180 rfl) (bg_dX5_survey_81 20 0 rfl) (bg_dX5_survey_81 21 9 rfl)
theorem dX5_survey_103 : decode cX5_survey 103 = .ok (.getfield 45, 3) := o_180 (bg_dX5_survey_81 22 180 rfl) (bg_dX5_survey_81 23 0 rfl) (bg_dX5_survey_81 24 45 rfl)
theorem bg_dX5_survey_106 : bysAt cX5_survey 106 [4, 46, 162, 0, 103, 42, 180, 0, 9, 29, 3, 182, 0, 58, 54, 4, 42, 180, 0, 26, 21, 4, 46, 2] := bysAt_of (by decide +kernel)
theorem dX5_survey_106 : decode cX5_survey 106 = .ok (.iconst 1, 1) := o_4 (bg_dX5_survey_106 0 4 rfl)
theorem dX5_survey_107 : decode cX5_survey 107 = .ok (.iaload, 1) := o_46 (bg_dX5_survey_106 1 46 rfl)
theorem dX5_survey_108 : decode cX5_survey 108 = .ok (.if_icmp .ge 103, 3) := o_162 (bg_dX5_survey_106 2 162 rfl) (bg_dX5_survey_106 3 0 rfl) (bg_dX5_survey_106 4 103 rfl) (by decide +kernel)
theorem dX5_survey_111 : decode cX5_survey 111 = .ok (.aload_n 0, 1) := o_42 (bg_dX5_survey_106 5 42 rfl)
theorem dX5_survey_112 : decode cX5_survey 112 = .ok (.getfield 9, 3) := o_180 (bg_dX5_survey_106 6 180 rfl) (bg_dX5_survey_106 7 0 rfl) (bg_dX5_survey_106 8 9 rfl)
theorem dX5_survey_115 : decode cX5_survey 115 = .ok (.iload_n 3, 1) := o_29 (bg_dX5_survey_106 9 29 rfl)
theorem dX5_survey_116 : decode cX5_survey 116 = .ok (.iconst 0, 1) := o_3 (bg_dX5_survey_106 10 3 rfl)
theorem dX5_survey_117 : decode cX5_survey 117 = .ok (.invokevirtual 58, 3) := o_182 (bg_dX5_survey_106 11 182 rfl) (bg_dX5_survey_106 12 0 rfl) (bg_dX5_survey_106 13 58 rfl)
theorem dX5_survey_120 : decode cX5_survey 120 = .ok (.istore 4, 2) := o_54 (bg_dX5_survey_106 14 54 rfl) (bg_dX5_survey_106 15 4 rfl)
theorem dX5_survey_122 : decode cX5_survey 122 = .ok (.aload_n 0, 1) := o_42 (bg_dX5_survey_106 16 42 rfl)
theorem dX5_survey_123 : decode cX5_survey 123 = .ok (.getfield 26, 3) := o_180 (bg_dX5_survey_106 17 180 rfl) (bg_dX5_survey_106 18 0 rfl) (bg_dX5_survey_106 19 26 rfl)
theorem dX5_survey_126 : decode cX5_survey 126 = .ok (.iload 4, 2) := o_21 (bg_dX5_survey_106 20 21 rfl) (bg_dX5_survey_106 21 4 rfl)
theorem dX5_survey_128 : decode cX5_survey 128 = .ok (.iaload, 1) := o_46 (bg_dX5_survey_106 22 46 rfl)
theorem dX5_survey_129 : decode cX5_survey 129 = .ok (.iconst (-1), 1) := o_2 (bg_dX5_survey_106 23 2 rfl)
theorem bg_dX5_survey_130 : bysAt cX5_survey 130 [160, 0, 7, 5, 167, 0, 15, 42, 180, 0, 18, 42, 180, 0, 9, 29, 182, 0, 61, 54, 5, 21, 5, 5, 160, 0, 14, 42] := bysAt_of (by decide +kernel)
theorem dX5_survey_130 : decode cX5_survey 130 = .ok (.if_icmp .ne 7, 3) := o_160 (bg_dX5_survey_130 0 160 rfl) (bg_dX5_survey_130 1 0 rfl) (bg_dX5_survey_130 2 7 rfl) (by decide +kernel)
theorem dX5_survey_133 : decode cX5_survey 133 = .ok (.iconst 2, 1) := o_5 (bg_dX5_survey_130 3 5 rfl)
theorem dX5_survey_134 : decode cX5_survey 134 = .ok (.goto 15, 3) := o_167 (bg_dX5_survey_130 4 167 rfl) (bg_dX5_survey_130 5 0 rfl) (bg_dX5_survey_130 6 15 rfl) (by decide +kernel)
theorem dX5_survey_137 : decode cX5_survey 137 = .ok (.aload_n 0, 1) := o_42 (bg_dX5_survey_130 7 42 rfl)
theorem dX5_survey_138 : decode cX5_survey 138 = .ok (.getfield 18, 3) := o_180 (bg_dX5_survey_130 8 180 rfl) (bg_dX5_survey_130 9 0 rfl) (bg_dX5_survey_130 10 18 rfl)
theorem dX5_survey_141 : decode cX5_survey 141 = .ok (.aload_n 0, 1) := o_42 (bg_dX5_survey_130 11 42 rfl)
theorem dX5_survey_142 : decode cX5_survey 142 = .ok (.getfield 9, 3) := o_180 (bg_dX5_survey_130 12 180 rfl) (bg_dX5_survey_130 13 0 rfl) (bg_dX5_survey_130 14 9 rfl)
theorem dX5_survey_145 : decode cX5_survey 145 = .ok (.iload_n 3, 1) := o_29 (bg_dX5_survey_130 15 29 rfl)
theorem dX5_survey_146 : decode cX5_survey 146 = .ok (.invokevirtual 61, 3) := o_182 (bg_dX5_survey_130 16 182 rfl) (bg_dX5_survey_130 17 0 rfl) (bg_dX5_survey_130 18 61 rfl)
theorem dX5_survey_149 : decode cX5_survey 149 = .ok (.istore 5, 2) := o_54 (bg_dX5_survey_130 19 54 rfl) (bg_dX5_survey_130 20 5 rfl)
theorem dX5_survey_151 : decode cX5_survey 151 = .ok (.iload 5, 2) := o_21 (bg_dX5_survey_130 21 21 rfl) (bg_dX5_survey_130 22 5 rfl)
theorem dX5_survey_153 : decode cX5_survey 153 = .ok (.iconst 2, 1) := o_5 (bg_dX5_survey_130 23 5 rfl)
theorem dX5_survey_154 : decode cX5_survey 154 = .ok (.if_icmp .ne 14, 3) := o_160 (bg_dX5_survey_130 24 160 rfl) (bg_dX5_survey_130 25 0 rfl) (bg_dX5_survey_130 26 14 rfl) (by decide +kernel)
theorem dX5_survey_157 : decode cX5_survey 157 = .ok (.aload_n 0, 1) := o_42 (bg_dX5_survey_130 27 42 rfl)
theorem bg_dX5_survey_158 : bysAt cX5_survey 158 [180, 0, 26, 21, 4, 2, 79, 167, 0, 40, 21, 5, 4, 160, 0, 34, 42, 180, 0, 26, 21, 4, 92, 46, 4] := bysAt_of (by decide +kernel)
theorem dX5_survey_158 : decode cX5_survey 158 = .ok (.getfield 26, 3) := o_180 (bg_dX5_survey_158 0 180 rfl) (bg_dX5_survey_158 1 0 rfl) (bg_dX5_survey_158 2 26 rfl)
theorem dX5_survey_161 : decode cX5_survey 161 = .ok (.iload 4, 2) := o_21 (bg_dX5_survey_158 3 21 rfl) (bg_dX5_survey_158 4 4 rfl)
theorem dX5_survey_163 : decode cX5_survey 163 = .ok (.iconst (-1), 1) := o_2 (bg_dX5_survey_158 5 2 rfl)
theorem dX5_survey_164 : decode cX5_survey 164 = .ok (.iastore, 1) := o_79 (bg_dX5_survey_158 6 79 rfl)
theorem dX5_survey_165 : decode cX5_survey 165 = .ok (.goto 40, 3) := o_167 (bg_dX5_survey_158 7 167 rfl) (bg_dX5_survey_158 8 0 rfl) (bg_dX5_survey_158 9 40 rfl) (by decide +kernel)
theorem dX5_survey_168 : decode cX5_survey 168 = .ok (.iload 5, 2) := o_21 (bg_dX5_survey_158 10 21 rfl) (bg_dX5_survey_158 11 5 rfl)
theorem dX5_survey_170 : decode cX5_survey 170 = .ok (.iconst 1, 1) := o_4 (bg_dX5_survey_158 12 4 rfl)
theorem dX5_survey_171 : decode cX5_survey 171 = .ok (.if_icmp .ne 34, 3) := o_160 (bg_dX5_survey_158 13 160 rfl) (bg_dX5_survey_158 14 0 rfl) (bg_dX5_survey_158 15 34 rfl) (by decide +kernel)
theorem dX5_survey_174 : decode cX5_survey 174 = .ok (.aload_n 0, 1) := o_42 (bg_dX5_survey_158 16 42 rfl)
theorem dX5_survey_175 : decode cX5_survey 175 = .ok (.getfield 26, 3) := o_180 (bg_dX5_survey_158 17 180 rfl) (bg_dX5_survey_158 18 0 rfl) (bg_dX5_survey_158 19 26 rfl)
theorem dX5_survey_178 : decode cX5_survey 178 = .ok (.iload 4, 2) := o_21 (bg_dX5_survey_158 20 21 rfl) (bg_dX5_survey_158 21 4 rfl)
theorem dX5_survey_180 : decode cX5_survey 180 = .ok (.dup2, 1) := o_92 (bg_dX5_survey_158 22 92 rfl)
theorem dX5_survey_181 : decode cX5_survey 181 = .ok (.iaload, 1) := o_46 (bg_dX5_survey_158 23 46 rfl)
theorem dX5_survey_182 : decode cX5_survey 182 = .ok (.iconst 1, 1) := o_4 (bg_dX5_survey_158 24 4 rfl)
theorem bg_dX5_survey_183 : bysAt cX5_survey 183 [96, 79, 42, 180, 0, 29, 21, 4, 92, 46, 42, 180, 0, 9, 29, 16, 6, 182, 0, 58, 96, 79] := bysAt_of (by decide +kernel)
theorem dX5_survey_183 : decode cX5_survey 183 = .ok (.iadd, 1) := o_96 (bg_dX5_survey_183 0 96 rfl)
theorem dX5_survey_184 : decode cX5_survey 184 = .ok (.iastore, 1) := o_79 (bg_dX5_survey_183 1 79 rfl)
theorem dX5_survey_185 : decode cX5_survey 185 = .ok (.aload_n 0, 1) := o_42 (bg_dX5_survey_183 2 42 rfl)
theorem dX5_survey_186 : decode cX5_survey 186 = .ok (.getfield 29, 3) := o_180 (bg_dX5_survey_183 3 180 rfl) (bg_dX5_survey_183 4 0 rfl) (bg_dX5_survey_183 5 29 rfl)
theorem dX5_survey_189 : decode cX5_survey 189 = .ok (.iload 4, 2) := o_21 (bg_dX5_survey_183 6 21 rfl) (bg_dX5_survey_183 7 4 rfl)
theorem dX5_survey_191 : decode cX5_survey 191 = .ok (.dup2, 1) := o_92 (bg_dX5_survey_183 8 92 rfl)
theorem dX5_survey_192 : decode cX5_survey 192 = .ok (.iaload, 1) := o_46 (bg_dX5_survey_183 9 46 rfl)
theorem dX5_survey_193 : decode cX5_survey 193 = .ok (.aload_n 0, 1) := o_42 (bg_dX5_survey_183 10 42 rfl)
theorem dX5_survey_194 : decode cX5_survey 194 = .ok (.getfield 9, 3) := o_180 (bg_dX5_survey_183 11 180 rfl) (bg_dX5_survey_183 12 0 rfl) (bg_dX5_survey_183 13 9 rfl)
theorem dX5_survey_197 : decode cX5_survey 197 = .ok (.iload_n 3, 1) := o_29 (bg_dX5_survey_183 14 29 rfl)
theorem dX5_survey_198 : decode cX5_survey 198 = .ok (.bipush 6, 2) := o_16 (bg_dX5_survey_183 15 16 rfl) (bg_dX5_survey_183 16 6 rfl) (by decide +kernel)
theorem dX5_survey_200 : decode cX5_survey 200 = .ok (.invokevirtual 58, 3) := o_182 (bg_dX5_survey_183 17 182 rfl) (bg_dX5_survey_183 18 0 rfl) (bg_dX5_survey_183 19 58 rfl)
theorem dX5_survey_203 : decode cX5_survey 203 = .ok (.iadd, 1) := o_96 (bg_dX5_survey_183 20 96 rfl)
theorem dX5_survey_204 : decode cX5_survey 204 = .ok (.iastore, 1) := o_79 (bg_dX5_survey_183 21 79 rfl)
theorem bg_dX5_survey_208 : bysAt cX5_survey 208 [167, 255, 146, 177] := bysAt_of (by decide +kernel)
theorem dX5_survey_208 : decode cX5_survey 208 = .ok (.goto (-110), 3) := o_167 (bg_dX5_survey_208 0 167 rfl) (bg_dX5_survey_208 1 255 rfl) (bg_dX5_survey_208 2 146 rfl) (by decide +kernel)
theorem dX5_survey_211 : decode cX5_survey 211 = .ok (.return_, 1) := o_177 (bg_dX5_survey_208 3 177 rfl)
theorem bg_dX5_walk_0 : bysAt cX5_walk 0 [31, 9, 148, 155, 0, 18, 31, 42, 180, 0, 9, 180, 0, 45, 3, 46, 133, 148, 155, 0, 5, 3] := bysAt_of (by decide +kernel)
theorem dX5_walk_0 : decode cX5_walk 0 = .ok (.lload_n 1, 1) := o_31 (bg_dX5_walk_0 0 31 rfl)
theorem dX5_walk_1 : decode cX5_walk 1 = .ok (.lconst 0, 1) := o_9 (bg_dX5_walk_0 1 9 rfl)
theorem dX5_walk_2 : decode cX5_walk 2 = .ok (.lcmp, 1) := o_148 (bg_dX5_walk_0 2 148 rfl)
theorem dX5_walk_3 : decode cX5_walk 3 = .ok (.ifCond .lt 18, 3) := o_155 (bg_dX5_walk_0 3 155 rfl) (bg_dX5_walk_0 4 0 rfl) (bg_dX5_walk_0 5 18 rfl) (by decide +kernel)
theorem dX5_walk_6 : decode cX5_walk 6 = .ok (.lload_n 1, 1) := o_31 (bg_dX5_walk_0 6 31 rfl)
theorem dX5_walk_7 : decode cX5_walk 7 = .ok (.aload_n 0, 1) := o_42 (bg_dX5_walk_0 7 42 rfl)
theorem dX5_walk_8 : decode cX5_walk 8 = .ok (.getfield 9, 3) := o_180 (bg_dX5_walk_0 8 180 rfl) (bg_dX5_walk_0 9 0 rfl) (bg_dX5_walk_0 10 9 rfl)
theorem dX5_walk_11 : decode cX5_walk 11 = .ok (.getfield 45, 3) := o_180 (bg_dX5_walk_0 11 180 rfl) (bg_dX5_walk_0 12 0 rfl) (bg_dX5_walk_0 13 45 rfl)
theorem dX5_walk_14 : decode cX5_walk 14 = .ok (.iconst 0, 1) := o_3 (bg_dX5_walk_0 14 3 rfl)
theorem dX5_walk_15 : decode cX5_walk 15 = .ok (.iaload, 1) := o_46 (bg_dX5_walk_0 15 46 rfl)
theorem dX5_walk_16 : decode cX5_walk 16 = .ok (.i2l, 1) := o_133 (bg_dX5_walk_0 16 133 rfl)
theorem dX5_walk_17 : decode cX5_walk 17 = .ok (.lcmp, 1) := o_148 (bg_dX5_walk_0 17 148 rfl)
theorem dX5_walk_18 : decode cX5_walk 18 = .ok (.ifCond .lt 5, 3) := o_155 (bg_dX5_walk_0 18 155 rfl) (bg_dX5_walk_0 19 0 rfl) (bg_dX5_walk_0 20 5 rfl) (by decide +kernel)
theorem dX5_walk_21 : decode cX5_walk 21 = .ok (.iconst 0, 1) := o_3 (bg_dX5_walk_0 21 3 rfl)
theorem bg_dX5_walk_22 : bysAt cX5_walk 22 [172, 31, 136, 62, 42, 29, 42, 180, 0, 38, 6, 46, 182, 0, 103, 54, 4, 42, 180, 0, 26] := bysAt_of (by decide +kernel)
theorem dX5_walk_22 : decode cX5_walk 22 = .ok (.ireturn, 1) := o_172 (bg_dX5_walk_22 0 172 rfl)
theorem dX5_walk_23 : decode cX5_walk 23 = .ok (.lload_n 1, 1) := o_31 (bg_dX5_walk_22 1 31 rfl)
theorem dX5_walk_24 : decode cX5_walk 24 = .ok (.l2i, 1) := o_136 (bg_dX5_walk_22 2 136 rfl)
theorem dX5_walk_25 : decode cX5_walk 25 = .ok (.istore_n 3, 1) := o_62 (bg_dX5_walk_22 3 62 rfl)
theorem dX5_walk_26 : decode cX5_walk 26 = .ok (.aload_n 0, 1) := o_42 (bg_dX5_walk_22 4 42 rfl)
theorem dX5_walk_27 : decode cX5_walk 27 = .ok (.iload_n 3, 1) := o_29 (bg_dX5_walk_22 5 29 rfl)
theorem dX5_walk_28 : decode cX5_walk 28 = .ok (.aload_n 0, 1) := o_42 (bg_dX5_walk_22 6 42 rfl)
theorem dX5_walk_29 : decode cX5_walk 29 = .ok (.getfield 38, 3) := o_180 (bg_dX5_walk_22 7 180 rfl) (bg_dX5_walk_22 8 0 rfl) (bg_dX5_walk_22 9 38 rfl)
theorem dX5_walk_32 : decode cX5_walk 32 = .ok (.iconst 3, 1) := o_6 (bg_dX5_walk_22 10 6 rfl)
theorem dX5_walk_33 : decode cX5_walk 33 = .ok (.iaload, 1) := o_46 (bg_dX5_walk_22 11 46 rfl)
theorem dX5_walk_34 : decode cX5_walk 34 = .ok (.invokevirtual 103, 3) := o_182 (bg_dX5_walk_22 12 182 rfl) (bg_dX5_walk_22 13 0 rfl) (bg_dX5_walk_22 14 103 rfl)
theorem dX5_walk_37 : decode cX5_walk 37 = .ok (.istore 4, 2) := o_54 (bg_dX5_walk_22 15 54 rfl) (bg_dX5_walk_22 16 4 rfl)
theorem dX5_walk_39 : decode cX5_walk 39 = .ok (.aload_n 0, 1) := o_42 (bg_dX5_walk_22 17 42 rfl)
theorem dX5_walk_40 : decode cX5_walk 40 = .ok (.getfield 26, 3) := o_180 (bg_dX5_walk_22 18 180 rfl) (bg_dX5_walk_22 19 0 rfl) (bg_dX5_walk_22 20 26 rfl)
theorem bg_dX5_walk_43 : bysAt cX5_walk 43 [29, 46, 2, 159, 0, 9, 21, 4, 2, 160, 0, 5, 3, 172, 42, 180, 0, 38, 3, 92, 46] := bysAt_of (by decide +kernel)
theorem dX5_walk_43 : decode cX5_walk 43 = .ok (.iload_n 3, 1) := o_29 (bg_dX5_walk_43 0 29 rfl)
theorem dX5_walk_44 : decode cX5_walk 44 = .ok (.iaload, 1) := o_46 (bg_dX5_walk_43 1 46 rfl)
theorem dX5_walk_45 : decode cX5_walk 45 = .ok (.iconst (-1), 1) := o_2 (bg_dX5_walk_43 2 2 rfl)
theorem dX5_walk_46 : decode cX5_walk 46 = .ok (.if_icmp .eq 9, 3) := o_159 (bg_dX5_walk_43 3 159 rfl) (bg_dX5_walk_43 4 0 rfl) (bg_dX5_walk_43 5 9 rfl) (by decide +kernel)
theorem dX5_walk_49 : decode cX5_walk 49 = .ok (.iload 4, 2) := o_21 (bg_dX5_walk_43 6 21 rfl) (bg_dX5_walk_43 7 4 rfl)
theorem dX5_walk_51 : decode cX5_walk 51 = .ok (.iconst (-1), 1) := o_2 (bg_dX5_walk_43 8 2 rfl)
theorem dX5_walk_52 : decode cX5_walk 52 = .ok (.if_icmp .ne 5, 3) := o_160 (bg_dX5_walk_43 9 160 rfl) (bg_dX5_walk_43 10 0 rfl) (bg_dX5_walk_43 11 5 rfl) (by decide +kernel)
theorem dX5_walk_55 : decode cX5_walk 55 = .ok (.iconst 0, 1) := o_3 (bg_dX5_walk_43 12 3 rfl)
theorem dX5_walk_56 : decode cX5_walk 56 = .ok (.ireturn, 1) := o_172 (bg_dX5_walk_43 13 172 rfl)
theorem dX5_walk_57 : decode cX5_walk 57 = .ok (.aload_n 0, 1) := o_42 (bg_dX5_walk_43 14 42 rfl)
theorem dX5_walk_58 : decode cX5_walk 58 = .ok (.getfield 38, 3) := o_180 (bg_dX5_walk_43 15 180 rfl) (bg_dX5_walk_43 16 0 rfl) (bg_dX5_walk_43 17 38 rfl)
theorem dX5_walk_61 : decode cX5_walk 61 = .ok (.iconst 0, 1) := o_3 (bg_dX5_walk_43 18 3 rfl)
theorem dX5_walk_62 : decode cX5_walk 62 = .ok (.dup2, 1) := o_92 (bg_dX5_walk_43 19 92 rfl)
theorem dX5_walk_63 : decode cX5_walk 63 = .ok (.iaload, 1) := o_46 (bg_dX5_walk_43 20 46 rfl)
theorem bg_dX5_walk_64 : bysAt cX5_walk 64 [42, 29, 4, 182, 0, 96, 96, 79, 42, 180, 0, 38, 4, 92, 46, 42, 29, 182, 0, 93] := bysAt_of (by decide +kernel)
theorem dX5_walk_64 : decode cX5_walk 64 = .ok (.aload_n 0, 1) := o_42 (bg_dX5_walk_64 0 42 rfl)
theorem dX5_walk_65 : decode cX5_walk 65 = .ok (.iload_n 3, 1) := o_29 (bg_dX5_walk_64 1 29 rfl)
theorem dX5_walk_66 : decode cX5_walk 66 = .ok (.iconst 1, 1) := o_4 (bg_dX5_walk_64 2 4 rfl)
theorem dX5_walk_67 : decode cX5_walk 67 = .ok (.invokevirtual 96, 3) := o_182 (bg_dX5_walk_64 3 182 rfl) (bg_dX5_walk_64 4 0 rfl) (bg_dX5_walk_64 5 96 rfl)
theorem dX5_walk_70 : decode cX5_walk 70 = .ok (.iadd, 1) := o_96 (bg_dX5_walk_64 6 96 rfl)
theorem dX5_walk_71 : decode cX5_walk 71 = .ok (.iastore, 1) := o_79 (bg_dX5_walk_64 7 79 rfl)
theorem dX5_walk_72 : decode cX5_walk 72 = .ok (.aload_n 0, 1) := o_42 (bg_dX5_walk_64 8 42 rfl)
theorem dX5_walk_73 : decode cX5_walk 73 = .ok (.getfield 38, 3) := o_180 (bg_dX5_walk_64 9 180 rfl) (bg_dX5_walk_64 10 0 rfl) (bg_dX5_walk_64 11 38 rfl)
theorem dX5_walk_76 : decode cX5_walk 76 = .ok (.iconst 1, 1) := o_4 (bg_dX5_walk_64 12 4 rfl)
theorem dX5_walk_77 : decode cX5_walk 77 = .ok (.dup2, 1) := o_92 (bg_dX5_walk_64 13 92 rfl)
theorem dX5_walk_78 : decode cX5_walk 78 = .ok (.iaload, 1) := o_46 (bg_dX5_walk_64 14 46 rfl)
theorem dX5_walk_79 : decode cX5_walk 79 = .ok (.aload_n 0, 1) := o_42 (bg_dX5_walk_64 15 42 rfl)
theorem dX5_walk_80 : decode cX5_walk 80 = .ok (.iload_n 3, 1) := o_29 (bg_dX5_walk_64 16 29 rfl)
theorem dX5_walk_81 : decode cX5_walk 81 = .ok (.invokevirtual 93, 3) := o_182 (bg_dX5_walk_64 17 182 rfl) (bg_dX5_walk_64 18 0 rfl) (bg_dX5_walk_64 19 93 rfl)
theorem bg_dX5_walk_84 : bysAt cX5_walk 84 [96, 79, 42, 180, 0, 38, 5, 92, 46, 4, 42, 180, 0, 9, 29, 8, 182, 0, 50, 120] := bysAt_of (by decide +kernel)
theorem dX5_walk_84 : decode cX5_walk 84 = .ok (.iadd, 1) := o_96 (bg_dX5_walk_84 0 96 rfl)
theorem dX5_walk_85 : decode cX5_walk 85 = .ok (.iastore, 1) := o_79 (bg_dX5_walk_84 1 79 rfl)
theorem dX5_walk_86 : decode cX5_walk 86 = .ok (.aload_n 0, 1) := o_42 (bg_dX5_walk_84 2 42 rfl)
theorem dX5_walk_87 : decode cX5_walk 87 = .ok (.getfield 38, 3) := o_180 (bg_dX5_walk_84 3 180 rfl) (bg_dX5_walk_84 4 0 rfl) (bg_dX5_walk_84 5 38 rfl)
theorem dX5_walk_90 : decode cX5_walk 90 = .ok (.iconst 2, 1) := o_5 (bg_dX5_walk_84 6 5 rfl)
theorem dX5_walk_91 : decode cX5_walk 91 = .ok (.dup2, 1) := o_92 (bg_dX5_walk_84 7 92 rfl)
theorem dX5_walk_92 : decode cX5_walk 92 = .ok (.iaload, 1) := o_46 (bg_dX5_walk_84 8 46 rfl)
theorem dX5_walk_93 : decode cX5_walk 93 = .ok (.iconst 1, 1) := o_4 (bg_dX5_walk_84 9 4 rfl)
theorem dX5_walk_94 : decode cX5_walk 94 = .ok (.aload_n 0, 1) := o_42 (bg_dX5_walk_84 10 42 rfl)
theorem dX5_walk_95 : decode cX5_walk 95 = .ok (.getfield 9, 3) := o_180 (bg_dX5_walk_84 11 180 rfl) (bg_dX5_walk_84 12 0 rfl) (bg_dX5_walk_84 13 9 rfl)
theorem dX5_walk_98 : decode cX5_walk 98 = .ok (.iload_n 3, 1) := o_29 (bg_dX5_walk_84 14 29 rfl)
theorem dX5_walk_99 : decode cX5_walk 99 = .ok (.iconst 5, 1) := o_8 (bg_dX5_walk_84 15 8 rfl)
theorem dX5_walk_100 : decode cX5_walk 100 = .ok (.invokevirtual 50, 3) := o_182 (bg_dX5_walk_84 16 182 rfl) (bg_dX5_walk_84 17 0 rfl) (bg_dX5_walk_84 18 50 rfl)
theorem dX5_walk_103 : decode cX5_walk 103 = .ok (.ishl, 1) := o_120 (bg_dX5_walk_84 19 120 rfl)
theorem bg_dX5_walk_104 : bysAt cX5_walk 104 [128, 79, 42, 180, 0, 38, 6, 21, 4, 79, 4, 172] := bysAt_of (by decide +kernel)
theorem dX5_walk_104 : decode cX5_walk 104 = .ok (.ior, 1) := o_128 (bg_dX5_walk_104 0 128 rfl)
theorem dX5_walk_105 : decode cX5_walk 105 = .ok (.iastore, 1) := o_79 (bg_dX5_walk_104 1 79 rfl)
theorem dX5_walk_106 : decode cX5_walk 106 = .ok (.aload_n 0, 1) := o_42 (bg_dX5_walk_104 2 42 rfl)
theorem dX5_walk_107 : decode cX5_walk 107 = .ok (.getfield 38, 3) := o_180 (bg_dX5_walk_104 3 180 rfl) (bg_dX5_walk_104 4 0 rfl) (bg_dX5_walk_104 5 38 rfl)
theorem dX5_walk_110 : decode cX5_walk 110 = .ok (.iconst 3, 1) := o_6 (bg_dX5_walk_104 6 6 rfl)
theorem dX5_walk_111 : decode cX5_walk 111 = .ok (.iload 4, 2) := o_21 (bg_dX5_walk_104 7 21 rfl) (bg_dX5_walk_104 8 4 rfl)
theorem dX5_walk_113 : decode cX5_walk 113 = .ok (.iastore, 1) := o_79 (bg_dX5_walk_104 9 79 rfl)
theorem dX5_walk_114 : decode cX5_walk 114 = .ok (.iconst 1, 1) := o_4 (bg_dX5_walk_104 10 4 rfl)
theorem dX5_walk_115 : decode cX5_walk 115 = .ok (.ireturn, 1) := o_172 (bg_dX5_walk_104 11 172 rfl)
theorem pdVX0_ofRoad : yX0_ofRoad.cls = RX0 ∧ yX0_ofRoad.cls ≠ "java/lang/invoke/MethodHandle" ∧ yX0_ofRoad.cls ≠ "java/lang/invoke/VarHandle" ∧ (parseMethodDescriptor yX0_ofRoad.desc).map (fun d => d.parameters.length) = some 2 := by decide +kernel
theorem pdVX1_needsOf : yX1_needsOf.cls = RX1 ∧ yX1_needsOf.cls ≠ "java/lang/invoke/MethodHandle" ∧ yX1_needsOf.cls ≠ "java/lang/invoke/VarHandle" ∧ (parseMethodDescriptor yX1_needsOf.desc).map (fun d => d.parameters.length) = some 2 := by decide +kernel
theorem pdVX1_take : yX1_take.cls = RX1 ∧ yX1_take.cls ≠ "java/lang/invoke/MethodHandle" ∧ yX1_take.cls ≠ "java/lang/invoke/VarHandle" ∧ (parseMethodDescriptor yX1_take.desc).map (fun d => d.parameters.length) = some 3 := by decide +kernel
theorem pdVX5_coinOf : yX5_coinOf.cls = RX5 ∧ yX5_coinOf.cls ≠ "java/lang/invoke/MethodHandle" ∧ yX5_coinOf.cls ≠ "java/lang/invoke/VarHandle" ∧ (parseMethodDescriptor yX5_coinOf.desc).map (fun d => d.parameters.length) = some 2 := by decide +kernel
theorem pdVX5_daysOf : yX5_daysOf.cls = RX5 ∧ yX5_daysOf.cls ≠ "java/lang/invoke/MethodHandle" ∧ yX5_daysOf.cls ≠ "java/lang/invoke/VarHandle" ∧ (parseMethodDescriptor yX5_daysOf.desc).map (fun d => d.parameters.length) = some 1 := by decide +kernel
theorem pdVX5_engines : yX5_engines.cls = RX5 ∧ yX5_engines.cls ≠ "java/lang/invoke/MethodHandle" ∧ yX5_engines.cls ≠ "java/lang/invoke/VarHandle" ∧ (parseMethodDescriptor yX5_engines.desc).map (fun d => d.parameters.length) = some 1 := by decide +kernel
theorem pdVX5_otherEnd : yX5_otherEnd.cls = RX5 ∧ yX5_otherEnd.cls ≠ "java/lang/invoke/MethodHandle" ∧ yX5_otherEnd.cls ≠ "java/lang/invoke/VarHandle" ∧ (parseMethodDescriptor yX5_otherEnd.desc).map (fun d => d.parameters.length) = some 2 := by decide +kernel
theorem pdVX5_priceByCoin : yX5_priceByCoin.cls = RX5 ∧ yX5_priceByCoin.cls ≠ "java/lang/invoke/MethodHandle" ∧ yX5_priceByCoin.cls ≠ "java/lang/invoke/VarHandle" ∧ (parseMethodDescriptor yX5_priceByCoin.desc).map (fun d => d.parameters.length) = some 1 := by decide +kernel
theorem pdVX5_shorten : yX5_shorten.cls = RX5 ∧ yX5_shorten.cls ≠ "java/lang/invoke/MethodHandle" ∧ yX5_shorten.cls ≠ "java/lang/invoke/VarHandle" ∧ (parseMethodDescriptor yX5_shorten.desc).map (fun d => d.parameters.length) = some 1 := by decide +kernel
theorem pdVX5_spread : yX5_spread.cls = RX5 ∧ yX5_spread.cls ≠ "java/lang/invoke/MethodHandle" ∧ yX5_spread.cls ≠ "java/lang/invoke/VarHandle" ∧ (parseMethodDescriptor yX5_spread.desc).map (fun d => d.parameters.length) = some 1 := by decide +kernel
theorem pdVX5_survey : yX5_survey.cls = RX5 ∧ yX5_survey.cls ≠ "java/lang/invoke/MethodHandle" ∧ yX5_survey.cls ≠ "java/lang/invoke/VarHandle" ∧ (parseMethodDescriptor yX5_survey.desc).map (fun d => d.parameters.length) = some 2 := by decide +kernel
theorem dX5_firstRoad_99 : decode cX5_firstRoad 99 = .ok (.iinc 5 1, 3) := by decide +kernel
theorem dX5_leastDays_36 : decode cX5_leastDays 36 = .ok (.iinc 5 1, 3) := by decide +kernel
theorem dX5_priceByCoin_27 : decode cX5_priceByCoin 27 = .ok (.iinc 2 1, 3) := by decide +kernel
theorem dX5_reached_50 : decode cX5_reached 50 = .ok (.iinc 5 1, 3) := by decide +kernel
theorem dX5_spread_16 : decode cX5_spread 16 = .ok (.iinc 2 1, 3) := by decide +kernel
theorem dX5_spread_84 : decode cX5_spread 84 = .ok (.iinc 4 1, 3) := by decide +kernel
theorem dX5_spread_90 : decode cX5_spread 90 = .ok (.iinc 3 1, 3) := by decide +kernel
theorem dX5_standProps_55 : decode cX5_standProps 55 = .ok (.iinc 2 1, 3) := by decide +kernel
theorem dX5_survey_90 : decode cX5_survey 90 = .ok (.iinc 3 1, 3) := by decide +kernel
theorem dX5_survey_205 : decode cX5_survey 205 = .ok (.iinc 3 1, 3) := by decide +kernel
set_option maxHeartbeats 4000000 in
set_option maxRecDepth 100000 in
theorem c_X5_survey (l : Launch) (D : va_G) (E : Nat → ClassId) (G : Nat → Nat) (sz : Nat) (a : Nat → Nat) (C : Nat → va_E) (hT : TyX a E C) (x1 : Int32) (x2 : Int32) (hx1 : rg x1 0 4) : Met l yX5_survey (oh_w yX5_survey cX5_survey 6 none) ({ frames := 3, cells := 0, slots := 0, locals := 75 }) (oh_Pm D E G [.ref (a 3), .int x1, .int x2] (oh_W 35 a C) sz) (va_Qv (fun (u : Nat → va_E) => TyX a E u ∧ fr [(9, 10), (24, 26)] [] C u ∧ True) (oh_B D (va_A (oh_W 35 a C) sz) (fun u => oh_W 35 a u)) (va_A (oh_W 35 a C) sz)) 0 0 (va_A (oh_W 35 a C) sz) := by
  refine Met.ofW (cc := cX5_survey) (maxL := 6) (ret := none) (by decide) rfl ?_
  intro p e s m args below meth c s₁ B hml hv
  obtain ⟨rfl, hsz, hP, hK, hD0, hG⟩ := hv
  have hx := B.exec
  have hb := B.bytes
  have hr := B.returns
  have hts := atoms_spec (ws := (oh_w yX5_survey cX5_survey 6 none)) B.pre
  have htg : ∀ w ∈ oh_t, w.before _ s = true := fun w h => hts w (List.mem_cons_of_mem _ h)
  have hown : s.vm.findClass RX5 = some m.cls := findClass_of_methodNamed B.named
  have hlocks := B.notSynchronized
  have hT0 := hT
  subst hsz
  have hD := hD0.self (sz := s.heap.size)
  generalize hAe : va_A (oh_W 35 a C) s.heap.size = A at hD hG ⊢
  have hA : ∀ q : Nat, s.heap.size ≤ q → A q := fun q h => by rw [← hAe]; exact Or.inr h
  have hS : va_S A s.heap s.heap [] := va_S.rf
  have hF : fr [(9, 10), (24, 26)] [] C C := fr_rf
  have hl := lv_entry ([.ref (a 3), .int x1, .int x2]) (n := 6) (Nat.le_of_ble_eq_true rfl)
  rw [lg_entry_eq]
  generalize (lg_sl ([.ref (a 3), .int x1, .int x2]) ++ List.replicate (6 - (lg_sl ([.ref (a 3), .int x1, .int x2])).length) Slot.unset).toArray = ls at hl ⊢
  have hl : lv_has ls 6 [(0, .ref (a 3)), (1, .int x1), (2, .int x2)] := hl
  refine oh_genQ (fun Q hQ => ?_)
  refine lv_aload_n hx hb dX5_survey_0 rfl (lv_at hl 0 rfl) ?_
  refine va_get (D := D) (ci := 5) (v := .ref (a 9)) (C := RX5) (T := TX5) (N := 7) hx hb htg ig_5 hown hK hP 3 (oh_wg (by decide) (sX_3 hT)) rfl 1 (by decide) (htg _ q_168) (fun _ h9 => h9) rfl dX5_survey_1 ?_
  refine lv_aload_n hx hb dX5_survey_4 rfl (lv_at hl 0 rfl) ?_
  refine va_get (D := D) (ci := 5) (v := .ref (a 1)) (C := RX5) (T := TX5) (N := 7) hx hb htg ig_5 hown hK hP 3 (oh_wg (by decide) (sX_3 hT)) rfl 0 (by decide) (htg _ q_167) (fun _ h9 => h9) rfl dX5_survey_5 ?_
  refine lv_iload_n hx hb dX5_survey_8 rfl (lv_at hl 1 rfl) ?_
  refine lv_iload_n hx hb dX5_survey_9 rfl (lv_at hl 2 rfl) ?_
  refine tm_Vv (As := [.ref (a 1), .int x1, .int x2]) (rest := []) ⟨hx, hb, hml, hown, htg⟩ (c_X1_take l D E G _ a C hT x1 x2 (rg_w hx1 (by decide))) (cwV 3 htg (oh_gV q_754 q_704 q_705 q_69 q_706) rfl rfl rfl pdVX1_take ⟨Nat.le_of_ble_eq_true rfl, Nat.le_of_ble_eq_true rfl⟩) hK hP hD hG hS hA (va_recv hK hP (ci := 1) (q0 := 9) rfl (oh_wg (by decide) (sX_9 hT))) rfl hl.1 rfl (Nat.le_of_ble_eq_true rfl) dX5_survey_10 ⟨Nat.le_of_ble_eq_true rfl, Nat.le_of_ble_eq_true rfl⟩ (fun C_2 H locs hq_3 hP hD hS => ?_)
  obtain ⟨hT, f_4, hq_3⟩ := hq_3
  have hF := fr_tr hF f_4 (by decide) (by decide)
  refine W.widen (k := 0) (n := 0) (Nat.le_refl _) (Nat.le_refl _) ?_
  have t_5 := hT
  refine lv_iconst (v := 0) hx hb dX5_survey_13 (by decide) ?_
  refine lv_istore_n (lv' := [(3, .int 0), (0, .ref (a 3)), (1, .int x1), (2, .int x2)]) hx hb dX5_survey_14 rfl hl (by decide) rfl (fun ls hl => ?_)
  have L_15 : ∀ (d : Nat) (K15 : Nat → va_E) (z15_3 : Int32) (H : Heap) (locs : List Loc) (ls : Array Slot), (24 - z15_3.toInt).toNat = d → rg z15_3 0 24 → TyX a E K15 → fr [(9, 10), (24, 26)] [] C K15 → fr [(24, 26)] [] C_2 K15 → va_P D vwCl (oh_W 35 a K15) H → va_D A (oh_W 35 a K15) → va_S A s.heap H locs → lv_has ls 6 [(3, .int z15_3), (0, .ref (a 3)), (1, .int x1), (2, .int x2)] → W p l e ({ frames := 3, cells := 0, slots := 0, locals := 75 }) s m (([.ref (a 3), .int x1, .int x2] : List Value).toArray) below meth c H locs 0 0 Q (F0 m 15 ls []) := by
    intro d
    induction d using Nat.strongRecOn with
    | ind d ih_15 =>
    intro K15 z15_3 H locs ls hd_15 hz15_3 hT hF hLF_15 hP hD hS hl
    have t_6 := hT
    refine lv_iload_n hx hb dX5_survey_15 rfl (lv_at hl 0 rfl) ?_
    refine lv_aload_n hx hb dX5_survey_16 rfl (lv_at hl 1 rfl) ?_
    refine va_get (D := D) (ci := 5) (v := .ref (a 1)) (C := RX5) (T := TX5) (N := 7) hx hb htg ig_5 hown hK hP 3 (oh_wg (by decide) (sX_3 hT)) rfl 0 (by decide) (htg _ q_167) (fun _ h9 => h9) rfl dX5_survey_17 ?_
    refine va_get (D := D) (ci := 0) (v := .ref (a 10)) (C := RX0) (T := TX0) (N := 8) hx hb htg ig_0 hown hK hP 1 (oh_wg (by decide) (sX_1 hT)) rfl 0 (by decide) (htg _ q_99) (fun _ h9 => h9) rfl dX5_survey_20 ?_
    refine lv_iconst (v := 0) hx hb dX5_survey_23 (by decide) ?_
    refine th_iald hx hb hK hP 10 (by decide) (Eq.trans (Eq.trans (hLF_15.1 10 rfl (by decide)) (f_4.1 10 rfl (by decide))) (sX_10 hT0)) (rg_in (rg_c (v := 0) (lo := 0) (hi := 0) (by decide)) (by decide)) dX5_survey_24 ?_
    refine lv_icmp_ge (tgt := 96) hx hb dX5_survey_25 (by decide) (fun (c_7 : (ga (C 10) ((0 : Int32)).toNatClampNeg) ≤ z15_3) => ?_) (fun (c_7 : ¬ ((ga (C 10) ((0 : Int32)).toNatClampNeg) ≤ z15_3)) => ?_)
    · refine lv_iconst (v := 0) hx hb dX5_survey_96 (by decide) ?_
      refine lv_istore_n (lv' := [(3, .int 0), (0, .ref (a 3)), (1, .int x1), (2, .int x2)]) hx hb dX5_survey_97 rfl hl (by decide) rfl (fun ls hl => ?_)
      have L_98 : ∀ (d : Nat) (K98 : Nat → va_E) (z98_3 : Int32) (H : Heap) (locs : List Loc) (ls : Array Slot), (16 - z98_3.toInt).toNat = d → rg z98_3 0 16 → TyX a E K98 → fr [(9, 10), (24, 26)] [] C K98 → fr [(24, 26)] [] K15 K98 → va_P D vwCl (oh_W 35 a K98) H → va_D A (oh_W 35 a K98) → va_S A s.heap H locs → lv_has ls 6 [(3, .int z98_3), (0, .ref (a 3)), (1, .int x1), (2, .int x2)] → W p l e ({ frames := 3, cells := 0, slots := 0, locals := 75 }) s m (([.ref (a 3), .int x1, .int x2] : List Value).toArray) below meth c H locs 0 0 Q (F0 m 98 ls []) := by
        intro d
        induction d using Nat.strongRecOn with
        | ind d ih_98 =>
        intro K98 z98_3 H locs ls hd_98 hz98_3 hT hF hLF_98 hP hD hS hl
        have t_8 := hT
        refine lv_iload_n hx hb dX5_survey_98 rfl (lv_at hl 0 rfl) ?_
        refine lv_aload_n hx hb dX5_survey_99 rfl (lv_at hl 1 rfl) ?_
        refine va_get (D := D) (ci := 5) (v := .ref (a 1)) (C := RX5) (T := TX5) (N := 7) hx hb htg ig_5 hown hK hP 3 (oh_wg (by decide) (sX_3 hT)) rfl 0 (by decide) (htg _ q_167) (fun _ h9 => h9) rfl dX5_survey_100 ?_
        refine va_get (D := D) (ci := 0) (v := .ref (a 10)) (C := RX0) (T := TX0) (N := 8) hx hb htg ig_0 hown hK hP 1 (oh_wg (by decide) (sX_1 hT)) rfl 0 (by decide) (htg _ q_99) (fun _ h9 => h9) rfl dX5_survey_103 ?_
        refine lv_iconst (v := 1) hx hb dX5_survey_106 (by decide) ?_
        refine th_iald hx hb hK hP 10 (by decide) (Eq.trans (Eq.trans (hLF_98.1 10 rfl (by decide)) (Eq.trans (hLF_15.1 10 rfl (by decide)) (f_4.1 10 rfl (by decide)))) (sX_10 hT0)) (rg_in (rg_c (v := 1) (lo := 1) (hi := 1) (by decide)) (by decide)) dX5_survey_107 ?_
        refine lv_icmp_ge (tgt := 211) hx hb dX5_survey_108 (by decide) (fun (c_9 : (ga (C 10) ((1 : Int32)).toNatClampNeg) ≤ z98_3) => ?_) (fun (c_9 : ¬ ((ga (C 10) ((1 : Int32)).toNatClampNeg) ≤ z98_3)) => ?_)
        · rw [hQ]
          exact W.vret hx hb hr (fun t ht hW => ⟨⟨K98, rfl, ⟨hT, hF, trivial⟩, ⟨by rw [ht]; exact hP, hD⟩⟩, hS.F ht⟩) hS.2.2 dX5_survey_211
        · refine lv_aload_n hx hb dX5_survey_111 rfl (lv_at hl 1 rfl) ?_
          refine va_get (D := D) (ci := 5) (v := .ref (a 1)) (C := RX5) (T := TX5) (N := 7) hx hb htg ig_5 hown hK hP 3 (oh_wg (by decide) (sX_3 hT)) rfl 0 (by decide) (htg _ q_167) (fun _ h9 => h9) rfl dX5_survey_112 ?_
          refine lv_iload_n hx hb dX5_survey_115 rfl (lv_at hl 0 rfl) ?_
          refine lv_iconst (v := 0) hx hb dX5_survey_116 (by decide) ?_
          refine tq_V (As := [.int z98_3, .int 0]) (rest := []) (ws := (oh_W 35 a K98)) ⟨hx, hb, hml, hown, htg⟩ (c_X0_ofBridge l D E G a K98 hT z98_3 (0 : Int32) (rg_w (rn_ltu (u' := 15) (Int32.not_le.mp c_9) hz98_3 (tA_rdc (lo := 0) (hi := 16) (tX_10 hT0) (rg_in (rg_c (v := 1) (lo := 1) (hi := 1) (by decide)) (by decide)) (show _ = 1 by decide) (by decide)) (by decide)) (by decide)) (rg_w (rg_c (v := 0) (lo := 0) (hi := 0) (by decide)) (by decide))) (cwV 2 htg (oh_gV q_756 q_385 q_386 q_67 q_387) rfl rfl rfl pdVX0_ofBridge ⟨Nat.le_of_ble_eq_true rfl, Nat.le_of_ble_eq_true rfl⟩) hK hP hG hS (va_recv hK hP (ci := 0) (q0 := 1) rfl (oh_wg (by decide) (sX_1 hT))) rfl hl.1 rfl (Nat.le_of_ble_eq_true rfl) dX5_survey_117 ⟨Nat.le_of_ble_eq_true rfl, Nat.le_of_ble_eq_true rfl⟩ (fun r_10 hq_11 => ?_)
          subst hq_11
          refine lv_istore (lv' := [(4, .int (ga (K98 12) ((z98_3 * 10) + 0).toNatClampNeg)), (3, .int z98_3), (0, .ref (a 3)), (1, .int x1), (2, .int x2)]) hx hb dX5_survey_120 hl (by decide) rfl (fun ls hl => ?_)
          refine lv_aload_n hx hb dX5_survey_122 rfl (lv_at hl 2 rfl) ?_
          refine va_get (D := D) (ci := 5) (v := .ref (a 24)) (C := RX5) (T := TX5) (N := 7) hx hb htg ig_5 hown hK hP 3 (oh_wg (by decide) (sX_3 hT)) rfl 2 (by decide) (htg _ q_170) (fun _ h9 => h9) rfl dX5_survey_123 ?_
          refine lv_iload hx hb dX5_survey_126 (lv_at hl 0 rfl) ?_
          have n_12 : vp_in (ga (K98 12) ((z98_3 * 10) + 0).toNatClampNeg) 24 := (rg_in (tA_rdc (lo := 0) (hi := 23) (tX_12 t_8) (rg_in (rg_add (lo := 0) (hi := 150) (rg_mul (lo := 0) (hi := 150) (rn_ltu (u' := 15) (Int32.not_le.mp c_9) hz98_3 (tA_rdc (lo := 0) (hi := 16) (tX_10 hT0) (rg_in (rg_c (v := 1) (lo := 1) (hi := 1) (by decide)) (by decide)) (show _ = 1 by decide) (by decide)) (by decide)) (rg_c (v := 10) (lo := 10) (hi := 10) (by decide)) (by decide)) (rg_c (v := 0) (lo := 0) (hi := 0) (by decide)) (by decide)) (by decide)) (oh_col (W := 10) (rn_ltu (u' := 15) (Int32.not_le.mp c_9) hz98_3 (tA_rdc (lo := 0) (hi := 16) (tX_10 hT0) (rg_in (rg_c (v := 1) (lo := 1) (hi := 1) (by decide)) (by decide)) (show _ = 1 by decide) (by decide)) (by decide)) rfl (rg_c (v := 0) (lo := 0) (hi := 0) (by decide)) (by decide)) (by decide)) (by decide))
          refine th_iald hx hb hK hP 24 (by decide) (sX_24 hT) n_12 dX5_survey_128 ?_
          refine lv_iconst (v := (-1)) hx hb dX5_survey_129 (by decide) ?_
          refine lv_icmp_ne (tgt := 137) hx hb dX5_survey_130 (by decide) (fun (c_13 : ¬ ((ga (K98 24) (ga (K98 12) ((z98_3 * 10) + 0).toNatClampNeg).toNatClampNeg) = (-1))) => ?_) (fun (c_13 : (ga (K98 24) (ga (K98 12) ((z98_3 * 10) + 0).toNatClampNeg).toNatClampNeg) = (-1)) => ?_)
          · refine lv_aload_n hx hb dX5_survey_137 rfl (lv_at hl 2 rfl) ?_
            refine va_get (D := D) (ci := 5) (v := .ref (a 9)) (C := RX5) (T := TX5) (N := 7) hx hb htg ig_5 hown hK hP 3 (oh_wg (by decide) (sX_3 hT)) rfl 1 (by decide) (htg _ q_168) (fun _ h9 => h9) rfl dX5_survey_138 ?_
            refine lv_aload_n hx hb dX5_survey_141 rfl (lv_at hl 2 rfl) ?_
            refine va_get (D := D) (ci := 5) (v := .ref (a 1)) (C := RX5) (T := TX5) (N := 7) hx hb htg ig_5 hown hK hP 3 (oh_wg (by decide) (sX_3 hT)) rfl 0 (by decide) (htg _ q_167) (fun _ h9 => h9) rfl dX5_survey_142 ?_
            refine lv_iload_n hx hb dX5_survey_145 rfl (lv_at hl 1 rfl) ?_
            refine tq_V (As := [.ref (a 1), .int z98_3]) (rest := []) (ws := (oh_W 35 a K98)) ⟨hx, hb, hml, hown, htg⟩ (c_X1_needsOf l D E G a K98 hT z98_3 (rg_w (rn_ltu (u' := 15) (Int32.not_le.mp c_9) hz98_3 (tA_rdc (lo := 0) (hi := 16) (tX_10 hT0) (rg_in (rg_c (v := 1) (lo := 1) (hi := 1) (by decide)) (by decide)) (show _ = 1 by decide) (by decide)) (by decide)) (by decide))) (cwV 2 htg (oh_gV q_757 q_738 q_739 q_69 q_740) rfl rfl rfl pdVX1_needsOf ⟨Nat.le_of_ble_eq_true rfl, Nat.le_of_ble_eq_true rfl⟩) hK hP hG hS (va_recv hK hP (ci := 1) (q0 := 9) rfl (oh_wg (by decide) (sX_9 hT))) rfl hl.1 rfl (Nat.le_of_ble_eq_true rfl) dX5_survey_146 ⟨Nat.le_of_ble_eq_true rfl, Nat.le_of_ble_eq_true rfl⟩ (fun r_14 hq_15 => ?_)
            refine lv_istore (lv' := [(5, .int r_14), (4, .int (ga (K98 12) ((z98_3 * 10) + 0).toNatClampNeg)), (3, .int z98_3), (0, .ref (a 3)), (1, .int x1), (2, .int x2)]) hx hb dX5_survey_149 hl (by decide) rfl (fun ls hl => ?_)
            refine lv_iload hx hb dX5_survey_151 (lv_at hl 0 rfl) ?_
            refine lv_iconst (v := 2) hx hb dX5_survey_153 (by decide) ?_
            refine lv_icmp_ne (tgt := 168) hx hb dX5_survey_154 (by decide) (fun (c_16 : ¬ (r_14 = 2)) => ?_) (fun (c_16 : r_14 = 2) => ?_)
            · refine lv_iload hx hb dX5_survey_168 (lv_at hl 0 rfl) ?_
              refine lv_iconst (v := 1) hx hb dX5_survey_170 (by decide) ?_
              refine lv_icmp_ne (tgt := 205) hx hb dX5_survey_171 (by decide) (fun (c_17 : ¬ (r_14 = 1)) => ?_) (fun (c_17 : r_14 = 1) => ?_)
              · refine lv_iinc (v := z98_3 + 1) (lv' := [(3, .int (z98_3 + 1)), (5, .int r_14), (4, .int (ga (K98 12) ((z98_3 * 10) + 0).toNatClampNeg)), (0, .ref (a 3)), (1, .int x1), (2, .int x2)]) hx hb dX5_survey_205 hl (k := 2) rfl (by rfl) (by decide) rfl (fun ls hl => ?_)
                refine lv_goto (tgt := 98) hx hb dX5_survey_208 (by decide) ?_
                exact ih_98 _ (hd_98 ▸ mu_up 16 (rn_ltu (u' := 15) (Int32.not_le.mp c_9) hz98_3 (tA_rdc (lo := 0) (hi := 16) (tX_10 hT0) (rg_in (rg_c (v := 1) (lo := 1) (hi := 1) (by decide)) (by decide)) (show _ = 1 by decide) (by decide)) (by decide)) (by decide)) K98 (z98_3 + 1) _ _ ls rfl (rg_w (rg_add (lo := 1) (hi := 16) (rn_ltu (u' := 15) (Int32.not_le.mp c_9) hz98_3 (tA_rdc (lo := 0) (hi := 16) (tX_10 hT0) (rg_in (rg_c (v := 1) (lo := 1) (hi := 1) (by decide)) (by decide)) (show _ = 1 by decide) (by decide)) (by decide)) (rg_c (v := 1) (lo := 1) (hi := 1) (by decide)) (by decide)) (by decide)) hT hF hLF_98 hP hD hS (lv_sub hl [0, 3, 4, 5] rfl)
              · refine lv_aload_n hx hb dX5_survey_174 rfl (lv_at hl 3 rfl) ?_
                refine va_get (D := D) (ci := 5) (v := .ref (a 24)) (C := RX5) (T := TX5) (N := 7) hx hb htg ig_5 hown hK hP 3 (oh_wg (by decide) (sX_3 hT)) rfl 2 (by decide) (htg _ q_170) (fun _ h9 => h9) rfl dX5_survey_175 ?_
                refine lv_iload hx hb dX5_survey_178 (lv_at hl 1 rfl) ?_
                refine lv_dup2_11 hx hb dX5_survey_180 rfl rfl ?_
                have n_18 : vp_in (ga (K98 12) ((z98_3 * 10) + 0).toNatClampNeg) 24 := (rg_in (tA_rdc (lo := 0) (hi := 23) (tX_12 t_8) (rg_in (rg_add (lo := 0) (hi := 150) (rg_mul (lo := 0) (hi := 150) (rn_ltu (u' := 15) (Int32.not_le.mp c_9) hz98_3 (tA_rdc (lo := 0) (hi := 16) (tX_10 hT0) (rg_in (rg_c (v := 1) (lo := 1) (hi := 1) (by decide)) (by decide)) (show _ = 1 by decide) (by decide)) (by decide)) (rg_c (v := 10) (lo := 10) (hi := 10) (by decide)) (by decide)) (rg_c (v := 0) (lo := 0) (hi := 0) (by decide)) (by decide)) (by decide)) (oh_col (W := 10) (rn_ltu (u' := 15) (Int32.not_le.mp c_9) hz98_3 (tA_rdc (lo := 0) (hi := 16) (tX_10 hT0) (rg_in (rg_c (v := 1) (lo := 1) (hi := 1) (by decide)) (by decide)) (show _ = 1 by decide) (by decide)) (by decide)) rfl (rg_c (v := 0) (lo := 0) (hi := 0) (by decide)) (by decide)) (by decide)) (by decide))
                refine th_iald hx hb hK hP 24 (by decide) (sX_24 hT) n_18 dX5_survey_181 ?_
                refine lv_iconst (v := 1) hx hb dX5_survey_182 (by decide) ?_
                refine lv_iadd hx hb dX5_survey_183 ?_
                have n_19 : vp_in (ga (K98 12) ((z98_3 * 10) + 0).toNatClampNeg) 24 := (rg_in (tA_rdc (lo := 0) (hi := 23) (tX_12 t_8) (rg_in (rg_add (lo := 0) (hi := 150) (rg_mul (lo := 0) (hi := 150) (rn_ltu (u' := 15) (Int32.not_le.mp c_9) hz98_3 (tA_rdc (lo := 0) (hi := 16) (tX_10 hT0) (rg_in (rg_c (v := 1) (lo := 1) (hi := 1) (by decide)) (by decide)) (show _ = 1 by decide) (by decide)) (by decide)) (rg_c (v := 10) (lo := 10) (hi := 10) (by decide)) (by decide)) (rg_c (v := 0) (lo := 0) (hi := 0) (by decide)) (by decide)) (by decide)) (oh_col (W := 10) (rn_ltu (u' := 15) (Int32.not_le.mp c_9) hz98_3 (tA_rdc (lo := 0) (hi := 16) (tX_10 hT0) (rg_in (rg_c (v := 1) (lo := 1) (hi := 1) (by decide)) (by decide)) (show _ = 1 by decide) (by decide)) (by decide)) rfl (rg_c (v := 0) (lo := 0) (hi := 0) (by decide)) (by decide)) (by decide)) (by decide))
                refine th_iast (T := TyX a E) (Rl := fr [(9, 10), (24, 26)] [] C) hx hb hK hP hD hS 24 (by decide) (sX_24 hT) n_19 (hT.up 24 (tA_upd (tX_24 hT) tA_any)) (fr_st hF (by decide) (by decide)) dX5_survey_184 (fun C_20 H locs e_21 hT hF hP hD hS => ?_)
                have t_22 := hT
                refine lv_aload_n hx hb dX5_survey_185 rfl (lv_at hl 3 rfl) ?_
                refine va_get (D := D) (ci := 5) (v := .ref (a 25)) (C := RX5) (T := TX5) (N := 7) hx hb htg ig_5 hown hK hP 3 (oh_wg (by decide) (sX_3 hT)) rfl 3 (by decide) (htg _ q_172) (fun _ h9 => h9) rfl dX5_survey_186 ?_
                refine lv_iload hx hb dX5_survey_189 (lv_at hl 1 rfl) ?_
                refine lv_dup2_11 hx hb dX5_survey_191 rfl rfl ?_
                have n_23 : vp_in (ga (K98 12) ((z98_3 * 10) + 0).toNatClampNeg) 24 := (rg_in (tA_rdc (lo := 0) (hi := 23) (tX_12 t_8) (rg_in (rg_add (lo := 0) (hi := 150) (rg_mul (lo := 0) (hi := 150) (rn_ltu (u' := 15) (Int32.not_le.mp c_9) hz98_3 (tA_rdc (lo := 0) (hi := 16) (tX_10 hT0) (rg_in (rg_c (v := 1) (lo := 1) (hi := 1) (by decide)) (by decide)) (show _ = 1 by decide) (by decide)) (by decide)) (rg_c (v := 10) (lo := 10) (hi := 10) (by decide)) (by decide)) (rg_c (v := 0) (lo := 0) (hi := 0) (by decide)) (by decide)) (by decide)) (oh_col (W := 10) (rn_ltu (u' := 15) (Int32.not_le.mp c_9) hz98_3 (tA_rdc (lo := 0) (hi := 16) (tX_10 hT0) (rg_in (rg_c (v := 1) (lo := 1) (hi := 1) (by decide)) (by decide)) (show _ = 1 by decide) (by decide)) (by decide)) rfl (rg_c (v := 0) (lo := 0) (hi := 0) (by decide)) (by decide)) (by decide)) (by decide))
                refine th_iald hx hb hK hP 25 (by decide) (Eq.trans (th_un e_21 (by decide)) (sX_25 t_8)) n_23 dX5_survey_192 ?_
                refine lv_aload_n hx hb dX5_survey_193 rfl (lv_at hl 3 rfl) ?_
                refine va_get (D := D) (ci := 5) (v := .ref (a 1)) (C := RX5) (T := TX5) (N := 7) hx hb htg ig_5 hown hK hP 3 (oh_wg (by decide) (sX_3 hT)) rfl 0 (by decide) (htg _ q_167) (fun _ h9 => h9) rfl dX5_survey_194 ?_
                refine lv_iload_n hx hb dX5_survey_197 rfl (lv_at hl 2 rfl) ?_
                refine lv_bipush (v := 6) hx hb dX5_survey_198 (by decide) ?_
                refine tq_V (As := [.int z98_3, .int 6]) (rest := [.int (ga (K98 25) (ga (K98 12) ((z98_3 * 10) + 0).toNatClampNeg).toNatClampNeg), .int (ga (K98 12) ((z98_3 * 10) + 0).toNatClampNeg), .ref (a 25)]) (ws := (oh_W 35 a C_20)) ⟨hx, hb, hml, hown, htg⟩ (c_X0_ofBridge l D E G a C_20 hT z98_3 (6 : Int32) (rg_w (rn_ltu (u' := 15) (Int32.not_le.mp c_9) hz98_3 (tA_rdc (lo := 0) (hi := 16) (tX_10 hT0) (rg_in (rg_c (v := 1) (lo := 1) (hi := 1) (by decide)) (by decide)) (show _ = 1 by decide) (by decide)) (by decide)) (by decide)) (rg_w (rg_c (v := 6) (lo := 6) (hi := 6) (by decide)) (by decide))) (cwV 2 htg (oh_gV q_756 q_385 q_386 q_67 q_387) rfl rfl rfl pdVX0_ofBridge ⟨Nat.le_of_ble_eq_true rfl, Nat.le_of_ble_eq_true rfl⟩) hK hP hG hS (va_recv hK hP (ci := 0) (q0 := 1) rfl (oh_wg (by decide) (sX_1 hT))) rfl hl.1 rfl (Nat.le_of_ble_eq_true rfl) dX5_survey_200 ⟨Nat.le_of_ble_eq_true rfl, Nat.le_of_ble_eq_true rfl⟩ (fun r_24 hq_25 => ?_)
                subst hq_25
                refine lv_iadd hx hb dX5_survey_203 ?_
                have n_26 : vp_in (ga (K98 12) ((z98_3 * 10) + 0).toNatClampNeg) 24 := (rg_in (tA_rdc (lo := 0) (hi := 23) (tX_12 t_8) (rg_in (rg_add (lo := 0) (hi := 150) (rg_mul (lo := 0) (hi := 150) (rn_ltu (u' := 15) (Int32.not_le.mp c_9) hz98_3 (tA_rdc (lo := 0) (hi := 16) (tX_10 hT0) (rg_in (rg_c (v := 1) (lo := 1) (hi := 1) (by decide)) (by decide)) (show _ = 1 by decide) (by decide)) (by decide)) (rg_c (v := 10) (lo := 10) (hi := 10) (by decide)) (by decide)) (rg_c (v := 0) (lo := 0) (hi := 0) (by decide)) (by decide)) (by decide)) (oh_col (W := 10) (rn_ltu (u' := 15) (Int32.not_le.mp c_9) hz98_3 (tA_rdc (lo := 0) (hi := 16) (tX_10 hT0) (rg_in (rg_c (v := 1) (lo := 1) (hi := 1) (by decide)) (by decide)) (show _ = 1 by decide) (by decide)) (by decide)) rfl (rg_c (v := 0) (lo := 0) (hi := 0) (by decide)) (by decide)) (by decide)) (by decide))
                refine th_iast (T := TyX a E) (Rl := fr [(9, 10), (24, 26)] [] C) hx hb hK hP hD hS 25 (by decide) (sX_25 hT) n_26 (hT.up 25 (tA_upd (tX_25 hT) tA_any)) (fr_st hF (by decide) (by decide)) dX5_survey_204 (fun C_27 H locs e_28 hT hF hP hD hS => ?_)
                have t_29 := hT
                refine lv_iinc (v := z98_3 + 1) (lv' := [(3, .int (z98_3 + 1)), (5, .int r_14), (4, .int (ga (K98 12) ((z98_3 * 10) + 0).toNatClampNeg)), (0, .ref (a 3)), (1, .int x1), (2, .int x2)]) hx hb dX5_survey_205 hl (k := 2) rfl (by rfl) (by decide) rfl (fun ls hl => ?_)
                refine lv_goto (tgt := 98) hx hb dX5_survey_208 (by decide) ?_
                exact ih_98 _ (hd_98 ▸ mu_up 16 (rn_ltu (u' := 15) (Int32.not_le.mp c_9) hz98_3 (tA_rdc (lo := 0) (hi := 16) (tX_10 hT0) (rg_in (rg_c (v := 1) (lo := 1) (hi := 1) (by decide)) (by decide)) (show _ = 1 by decide) (by decide)) (by decide)) (by decide)) C_27 (z98_3 + 1) _ _ ls rfl (rg_w (rg_add (lo := 1) (hi := 16) (rn_ltu (u' := 15) (Int32.not_le.mp c_9) hz98_3 (tA_rdc (lo := 0) (hi := 16) (tX_10 hT0) (rg_in (rg_c (v := 1) (lo := 1) (hi := 1) (by decide)) (by decide)) (show _ = 1 by decide) (by decide)) (by decide)) (rg_c (v := 1) (lo := 1) (hi := 1) (by decide)) (by decide)) (by decide)) hT hF (fr_ste (fr_ste hLF_98 e_21 (by decide) (by decide)) e_28 (by decide) (by decide)) hP hD hS (lv_sub hl [0, 3, 4, 5] rfl)
            · refine lv_aload_n hx hb dX5_survey_157 rfl (lv_at hl 3 rfl) ?_
              refine va_get (D := D) (ci := 5) (v := .ref (a 24)) (C := RX5) (T := TX5) (N := 7) hx hb htg ig_5 hown hK hP 3 (oh_wg (by decide) (sX_3 hT)) rfl 2 (by decide) (htg _ q_170) (fun _ h9 => h9) rfl dX5_survey_158 ?_
              refine lv_iload hx hb dX5_survey_161 (lv_at hl 1 rfl) ?_
              refine lv_iconst (v := (-1)) hx hb dX5_survey_163 (by decide) ?_
              have n_30 : vp_in (ga (K98 12) ((z98_3 * 10) + 0).toNatClampNeg) 24 := (rg_in (tA_rdc (lo := 0) (hi := 23) (tX_12 t_8) (rg_in (rg_add (lo := 0) (hi := 150) (rg_mul (lo := 0) (hi := 150) (rn_ltu (u' := 15) (Int32.not_le.mp c_9) hz98_3 (tA_rdc (lo := 0) (hi := 16) (tX_10 hT0) (rg_in (rg_c (v := 1) (lo := 1) (hi := 1) (by decide)) (by decide)) (show _ = 1 by decide) (by decide)) (by decide)) (rg_c (v := 10) (lo := 10) (hi := 10) (by decide)) (by decide)) (rg_c (v := 0) (lo := 0) (hi := 0) (by decide)) (by decide)) (by decide)) (oh_col (W := 10) (rn_ltu (u' := 15) (Int32.not_le.mp c_9) hz98_3 (tA_rdc (lo := 0) (hi := 16) (tX_10 hT0) (rg_in (rg_c (v := 1) (lo := 1) (hi := 1) (by decide)) (by decide)) (show _ = 1 by decide) (by decide)) (by decide)) rfl (rg_c (v := 0) (lo := 0) (hi := 0) (by decide)) (by decide)) (by decide)) (by decide))
              refine th_iast (T := TyX a E) (Rl := fr [(9, 10), (24, 26)] [] C) hx hb hK hP hD hS 24 (by decide) (sX_24 hT) n_30 (hT.up 24 (tA_upd (tX_24 hT) tA_any)) (fr_st hF (by decide) (by decide)) dX5_survey_164 (fun C_31 H locs e_32 hT hF hP hD hS => ?_)
              have t_33 := hT
              refine lv_goto (tgt := 205) hx hb dX5_survey_165 (by decide) ?_
              refine lv_iinc (v := z98_3 + 1) (lv' := [(3, .int (z98_3 + 1)), (5, .int r_14), (4, .int (ga (K98 12) ((z98_3 * 10) + 0).toNatClampNeg)), (0, .ref (a 3)), (1, .int x1), (2, .int x2)]) hx hb dX5_survey_205 hl (k := 2) rfl (by rfl) (by decide) rfl (fun ls hl => ?_)
              refine lv_goto (tgt := 98) hx hb dX5_survey_208 (by decide) ?_
              exact ih_98 _ (hd_98 ▸ mu_up 16 (rn_ltu (u' := 15) (Int32.not_le.mp c_9) hz98_3 (tA_rdc (lo := 0) (hi := 16) (tX_10 hT0) (rg_in (rg_c (v := 1) (lo := 1) (hi := 1) (by decide)) (by decide)) (show _ = 1 by decide) (by decide)) (by decide)) (by decide)) C_31 (z98_3 + 1) _ _ ls rfl (rg_w (rg_add (lo := 1) (hi := 16) (rn_ltu (u' := 15) (Int32.not_le.mp c_9) hz98_3 (tA_rdc (lo := 0) (hi := 16) (tX_10 hT0) (rg_in (rg_c (v := 1) (lo := 1) (hi := 1) (by decide)) (by decide)) (show _ = 1 by decide) (by decide)) (by decide)) (rg_c (v := 1) (lo := 1) (hi := 1) (by decide)) (by decide)) (by decide)) hT hF (fr_ste hLF_98 e_32 (by decide) (by decide)) hP hD hS (lv_sub hl [0, 3, 4, 5] rfl)
          · refine lv_iconst (v := 2) hx hb dX5_survey_133 (by decide) ?_
            refine lv_goto (tgt := 149) hx hb dX5_survey_134 (by decide) ?_
            refine lv_istore (lv' := [(5, .int 2), (4, .int (ga (K98 12) ((z98_3 * 10) + 0).toNatClampNeg)), (3, .int z98_3), (0, .ref (a 3)), (1, .int x1), (2, .int x2)]) hx hb dX5_survey_149 hl (by decide) rfl (fun ls hl => ?_)
            refine lv_iload hx hb dX5_survey_151 (lv_at hl 0 rfl) ?_
            refine lv_iconst (v := 2) hx hb dX5_survey_153 (by decide) ?_
            refine lv_icmp_ne (tgt := 168) hx hb dX5_survey_154 (by decide) (fun c => absurd (show (2 : Int32) = 2 from by decide) c) (fun _ => ?_)
            refine lv_aload_n hx hb dX5_survey_157 rfl (lv_at hl 3 rfl) ?_
            refine va_get (D := D) (ci := 5) (v := .ref (a 24)) (C := RX5) (T := TX5) (N := 7) hx hb htg ig_5 hown hK hP 3 (oh_wg (by decide) (sX_3 hT)) rfl 2 (by decide) (htg _ q_170) (fun _ h9 => h9) rfl dX5_survey_158 ?_
            refine lv_iload hx hb dX5_survey_161 (lv_at hl 1 rfl) ?_
            refine lv_iconst (v := (-1)) hx hb dX5_survey_163 (by decide) ?_
            have n_34 : vp_in (ga (K98 12) ((z98_3 * 10) + 0).toNatClampNeg) 24 := (rg_in (tA_rdc (lo := 0) (hi := 23) (tX_12 t_8) (rg_in (rg_add (lo := 0) (hi := 150) (rg_mul (lo := 0) (hi := 150) (rn_ltu (u' := 15) (Int32.not_le.mp c_9) hz98_3 (tA_rdc (lo := 0) (hi := 16) (tX_10 hT0) (rg_in (rg_c (v := 1) (lo := 1) (hi := 1) (by decide)) (by decide)) (show _ = 1 by decide) (by decide)) (by decide)) (rg_c (v := 10) (lo := 10) (hi := 10) (by decide)) (by decide)) (rg_c (v := 0) (lo := 0) (hi := 0) (by decide)) (by decide)) (by decide)) (oh_col (W := 10) (rn_ltu (u' := 15) (Int32.not_le.mp c_9) hz98_3 (tA_rdc (lo := 0) (hi := 16) (tX_10 hT0) (rg_in (rg_c (v := 1) (lo := 1) (hi := 1) (by decide)) (by decide)) (show _ = 1 by decide) (by decide)) (by decide)) rfl (rg_c (v := 0) (lo := 0) (hi := 0) (by decide)) (by decide)) (by decide)) (by decide))
            refine th_iast (T := TyX a E) (Rl := fr [(9, 10), (24, 26)] [] C) hx hb hK hP hD hS 24 (by decide) (sX_24 hT) n_34 (hT.up 24 (tA_upd (tX_24 hT) tA_any)) (fr_st hF (by decide) (by decide)) dX5_survey_164 (fun C_35 H locs e_36 hT hF hP hD hS => ?_)
            have t_37 := hT
            refine lv_goto (tgt := 205) hx hb dX5_survey_165 (by decide) ?_
            refine lv_iinc (v := z98_3 + 1) (lv' := [(3, .int (z98_3 + 1)), (5, .int 2), (4, .int (ga (K98 12) ((z98_3 * 10) + 0).toNatClampNeg)), (0, .ref (a 3)), (1, .int x1), (2, .int x2)]) hx hb dX5_survey_205 hl (k := 2) rfl (by rfl) (by decide) rfl (fun ls hl => ?_)
            refine lv_goto (tgt := 98) hx hb dX5_survey_208 (by decide) ?_
            exact ih_98 _ (hd_98 ▸ mu_up 16 (rn_ltu (u' := 15) (Int32.not_le.mp c_9) hz98_3 (tA_rdc (lo := 0) (hi := 16) (tX_10 hT0) (rg_in (rg_c (v := 1) (lo := 1) (hi := 1) (by decide)) (by decide)) (show _ = 1 by decide) (by decide)) (by decide)) (by decide)) C_35 (z98_3 + 1) _ _ ls rfl (rg_w (rg_add (lo := 1) (hi := 16) (rn_ltu (u' := 15) (Int32.not_le.mp c_9) hz98_3 (tA_rdc (lo := 0) (hi := 16) (tX_10 hT0) (rg_in (rg_c (v := 1) (lo := 1) (hi := 1) (by decide)) (by decide)) (show _ = 1 by decide) (by decide)) (by decide)) (rg_c (v := 1) (lo := 1) (hi := 1) (by decide)) (by decide)) (by decide)) hT hF (fr_ste hLF_98 e_36 (by decide) (by decide)) hP hD hS (lv_sub hl [0, 3, 4, 5] rfl)
      exact L_98 _ K15 0 _ _ ls rfl (rg_w (rg_c (v := 0) (lo := 0) (hi := 0) (by decide)) (by decide)) hT hF fr_rf hP hD hS (lv_sub hl [0, 1, 2, 3] rfl)
    · refine lv_aload_n hx hb dX5_survey_28 rfl (lv_at hl 1 rfl) ?_
      refine va_get (D := D) (ci := 5) (v := .ref (a 1)) (C := RX5) (T := TX5) (N := 7) hx hb htg ig_5 hown hK hP 3 (oh_wg (by decide) (sX_3 hT)) rfl 0 (by decide) (htg _ q_167) (fun _ h9 => h9) rfl dX5_survey_29 ?_
      refine lv_iload_n hx hb dX5_survey_32 rfl (lv_at hl 0 rfl) ?_
      refine lv_bipush (v := 6) hx hb dX5_survey_33 (by decide) ?_
      refine tq_V (As := [.int z15_3, .int 6]) (rest := []) (ws := (oh_W 35 a K15)) ⟨hx, hb, hml, hown, htg⟩ (c_X0_ofRoad l D E G a K15 hT z15_3 (6 : Int32) (rg_w (rn_ltu (u' := 23) (Int32.not_le.mp c_7) hz15_3 (tA_rdc (lo := 0) (hi := 24) (tX_10 hT0) (rg_in (rg_c (v := 0) (lo := 0) (hi := 0) (by decide)) (by decide)) (show _ = 0 by decide) (by decide)) (by decide)) (by decide)) (rg_w (rg_c (v := 6) (lo := 6) (hi := 6) (by decide)) (by decide))) (cwV 2 htg (oh_gV q_755 q_480 q_481 q_67 q_482) rfl rfl rfl pdVX0_ofRoad ⟨Nat.le_of_ble_eq_true rfl, Nat.le_of_ble_eq_true rfl⟩) hK hP hG hS (va_recv hK hP (ci := 0) (q0 := 1) rfl (oh_wg (by decide) (sX_1 hT))) rfl hl.1 rfl (Nat.le_of_ble_eq_true rfl) dX5_survey_35 ⟨Nat.le_of_ble_eq_true rfl, Nat.le_of_ble_eq_true rfl⟩ (fun r_38 hq_39 => ?_)
      subst hq_39
      refine lv_if_ne (tgt := 64) hx hb dX5_survey_38 (by decide) (fun (c_40 : ¬ ((ga (K15 11) ((z15_3 * 7) + 6).toNatClampNeg) = 0)) => ?_) (fun (c_40 : (ga (K15 11) ((z15_3 * 7) + 6).toNatClampNeg) = 0) => ?_)
      · refine lv_iconst (v := 0) hx hb dX5_survey_64 (by decide) ?_
        refine lv_istore (lv' := [(4, .int 0), (3, .int z15_3), (0, .ref (a 3)), (1, .int x1), (2, .int x2)]) hx hb dX5_survey_65 hl (by decide) rfl (fun ls hl => ?_)
        refine lv_aload_n hx hb dX5_survey_67 rfl (lv_at hl 2 rfl) ?_
        refine va_get (D := D) (ci := 5) (v := .ref (a 24)) (C := RX5) (T := TX5) (N := 7) hx hb htg ig_5 hown hK hP 3 (oh_wg (by decide) (sX_3 hT)) rfl 2 (by decide) (htg _ q_170) (fun _ h9 => h9) rfl dX5_survey_68 ?_
        refine lv_iload_n hx hb dX5_survey_71 rfl (lv_at hl 1 rfl) ?_
        refine lv_iload hx hb dX5_survey_72 (lv_at hl 0 rfl) ?_
        refine lv_if_eq (tgt := 81) hx hb dX5_survey_74 (by decide) (fun _ => ?_) (fun c => absurd (show (0 : Int32) = 0 from by decide) c)
        refine lv_iconst (v := (-1)) hx hb dX5_survey_81 (by decide) ?_
        have n_41 : vp_in z15_3 24 := (rg_in (rn_ltu (u' := 23) (Int32.not_le.mp c_7) hz15_3 (tA_rdc (lo := 0) (hi := 24) (tX_10 hT0) (rg_in (rg_c (v := 0) (lo := 0) (hi := 0) (by decide)) (by decide)) (show _ = 0 by decide) (by decide)) (by decide)) (by decide))
        refine th_iast (T := TyX a E) (Rl := fr [(9, 10), (24, 26)] [] C) hx hb hK hP hD hS 24 (by decide) (sX_24 hT) n_41 (hT.up 24 (tA_upd (tX_24 hT) tA_any)) (fr_st hF (by decide) (by decide)) dX5_survey_82 (fun C_42 H locs e_43 hT hF hP hD hS => ?_)
        have t_44 := hT
        refine lv_aload_n hx hb dX5_survey_83 rfl (lv_at hl 2 rfl) ?_
        refine va_get (D := D) (ci := 5) (v := .ref (a 25)) (C := RX5) (T := TX5) (N := 7) hx hb htg ig_5 hown hK hP 3 (oh_wg (by decide) (sX_3 hT)) rfl 3 (by decide) (htg _ q_172) (fun _ h9 => h9) rfl dX5_survey_84 ?_
        refine lv_iload_n hx hb dX5_survey_87 rfl (lv_at hl 1 rfl) ?_
        refine lv_iconst (v := 0) hx hb dX5_survey_88 (by decide) ?_
        have n_45 : vp_in z15_3 24 := (rg_in (rn_ltu (u' := 23) (Int32.not_le.mp c_7) hz15_3 (tA_rdc (lo := 0) (hi := 24) (tX_10 hT0) (rg_in (rg_c (v := 0) (lo := 0) (hi := 0) (by decide)) (by decide)) (show _ = 0 by decide) (by decide)) (by decide)) (by decide))
        refine th_iast (T := TyX a E) (Rl := fr [(9, 10), (24, 26)] [] C) hx hb hK hP hD hS 25 (by decide) (sX_25 hT) n_45 (hT.up 25 (tA_upd (tX_25 hT) tA_any)) (fr_st hF (by decide) (by decide)) dX5_survey_89 (fun C_46 H locs e_47 hT hF hP hD hS => ?_)
        have t_48 := hT
        refine lv_iinc (v := z15_3 + 1) (lv' := [(3, .int (z15_3 + 1)), (4, .int 0), (0, .ref (a 3)), (1, .int x1), (2, .int x2)]) hx hb dX5_survey_90 hl (k := 1) rfl (by rfl) (by decide) rfl (fun ls hl => ?_)
        refine lv_goto (tgt := 15) hx hb dX5_survey_93 (by decide) ?_
        exact ih_15 _ (hd_15 ▸ mu_up 24 (rn_ltu (u' := 23) (Int32.not_le.mp c_7) hz15_3 (tA_rdc (lo := 0) (hi := 24) (tX_10 hT0) (rg_in (rg_c (v := 0) (lo := 0) (hi := 0) (by decide)) (by decide)) (show _ = 0 by decide) (by decide)) (by decide)) (by decide)) C_46 (z15_3 + 1) _ _ ls rfl (rg_w (rg_add (lo := 1) (hi := 24) (rn_ltu (u' := 23) (Int32.not_le.mp c_7) hz15_3 (tA_rdc (lo := 0) (hi := 24) (tX_10 hT0) (rg_in (rg_c (v := 0) (lo := 0) (hi := 0) (by decide)) (by decide)) (show _ = 0 by decide) (by decide)) (by decide)) (rg_c (v := 1) (lo := 1) (hi := 1) (by decide)) (by decide)) (by decide)) hT hF (fr_ste (fr_ste hLF_15 e_43 (by decide) (by decide)) e_47 (by decide) (by decide)) hP hD hS (lv_sub hl [0, 2, 3, 4] rfl)
      · refine lv_aload_n hx hb dX5_survey_41 rfl (lv_at hl 1 rfl) ?_
        refine va_get (D := D) (ci := 5) (v := .ref (a 1)) (C := RX5) (T := TX5) (N := 7) hx hb htg ig_5 hown hK hP 3 (oh_wg (by decide) (sX_3 hT)) rfl 0 (by decide) (htg _ q_167) (fun _ h9 => h9) rfl dX5_survey_42 ?_
        refine lv_iload_n hx hb dX5_survey_45 rfl (lv_at hl 0 rfl) ?_
        refine lv_iconst (v := 4) hx hb dX5_survey_46 (by decide) ?_
        refine tq_V (As := [.int z15_3, .int 4]) (rest := []) (ws := (oh_W 35 a K15)) ⟨hx, hb, hml, hown, htg⟩ (c_X0_ofRoad l D E G a K15 hT z15_3 (4 : Int32) (rg_w (rn_ltu (u' := 23) (Int32.not_le.mp c_7) hz15_3 (tA_rdc (lo := 0) (hi := 24) (tX_10 hT0) (rg_in (rg_c (v := 0) (lo := 0) (hi := 0) (by decide)) (by decide)) (show _ = 0 by decide) (by decide)) (by decide)) (by decide)) (rg_w (rg_c (v := 4) (lo := 4) (hi := 4) (by decide)) (by decide))) (cwV 2 htg (oh_gV q_755 q_480 q_481 q_67 q_482) rfl rfl rfl pdVX0_ofRoad ⟨Nat.le_of_ble_eq_true rfl, Nat.le_of_ble_eq_true rfl⟩) hK hP hG hS (va_recv hK hP (ci := 0) (q0 := 1) rfl (oh_wg (by decide) (sX_1 hT))) rfl hl.1 rfl (Nat.le_of_ble_eq_true rfl) dX5_survey_47 ⟨Nat.le_of_ble_eq_true rfl, Nat.le_of_ble_eq_true rfl⟩ (fun r_49 hq_50 => ?_)
        subst hq_50
        refine lv_aload_n hx hb dX5_survey_50 rfl (lv_at hl 1 rfl) ?_
        refine va_get (D := D) (ci := 5) (v := .ref (a 9)) (C := RX5) (T := TX5) (N := 7) hx hb htg ig_5 hown hK hP 3 (oh_wg (by decide) (sX_3 hT)) rfl 1 (by decide) (htg _ q_168) (fun _ h9 => h9) rfl dX5_survey_51 ?_
        refine va_get (D := D) (ci := 1) (v := .int (gi (C_2 9) 2)) (C := RX1) (T := TX1) (N := 5) hx hb htg ig_1 hown hK hP 9 (oh_wg (by decide) (sX_9 hT)) rfl 2 (by decide) (htg _ q_148) (fun _ h9 => h9) (oh_fv (c := K15 9) (j := 2) rfl (congrArg (fun z => gi z 2) (hLF_15.1 9 rfl (by decide)))) dX5_survey_54 ?_
        refine lv_icmp_lt (tgt := 64) hx hb dX5_survey_57 (by decide) (fun (c_51 : (ga (K15 11) ((z15_3 * 7) + 4).toNatClampNeg) < (gi (C_2 9) 2)) => ?_) (fun (c_51 : ¬ ((ga (K15 11) ((z15_3 * 7) + 4).toNatClampNeg) < (gi (C_2 9) 2))) => ?_)
        · refine lv_iconst (v := 0) hx hb dX5_survey_64 (by decide) ?_
          refine lv_istore (lv' := [(4, .int 0), (3, .int z15_3), (0, .ref (a 3)), (1, .int x1), (2, .int x2)]) hx hb dX5_survey_65 hl (by decide) rfl (fun ls hl => ?_)
          refine lv_aload_n hx hb dX5_survey_67 rfl (lv_at hl 2 rfl) ?_
          refine va_get (D := D) (ci := 5) (v := .ref (a 24)) (C := RX5) (T := TX5) (N := 7) hx hb htg ig_5 hown hK hP 3 (oh_wg (by decide) (sX_3 hT)) rfl 2 (by decide) (htg _ q_170) (fun _ h9 => h9) rfl dX5_survey_68 ?_
          refine lv_iload_n hx hb dX5_survey_71 rfl (lv_at hl 1 rfl) ?_
          refine lv_iload hx hb dX5_survey_72 (lv_at hl 0 rfl) ?_
          refine lv_if_eq (tgt := 81) hx hb dX5_survey_74 (by decide) (fun _ => ?_) (fun c => absurd (show (0 : Int32) = 0 from by decide) c)
          refine lv_iconst (v := (-1)) hx hb dX5_survey_81 (by decide) ?_
          have n_52 : vp_in z15_3 24 := (rg_in (rn_ltu (u' := 23) (Int32.not_le.mp c_7) hz15_3 (tA_rdc (lo := 0) (hi := 24) (tX_10 hT0) (rg_in (rg_c (v := 0) (lo := 0) (hi := 0) (by decide)) (by decide)) (show _ = 0 by decide) (by decide)) (by decide)) (by decide))
          refine th_iast (T := TyX a E) (Rl := fr [(9, 10), (24, 26)] [] C) hx hb hK hP hD hS 24 (by decide) (sX_24 hT) n_52 (hT.up 24 (tA_upd (tX_24 hT) tA_any)) (fr_st hF (by decide) (by decide)) dX5_survey_82 (fun C_53 H locs e_54 hT hF hP hD hS => ?_)
          have t_55 := hT
          refine lv_aload_n hx hb dX5_survey_83 rfl (lv_at hl 2 rfl) ?_
          refine va_get (D := D) (ci := 5) (v := .ref (a 25)) (C := RX5) (T := TX5) (N := 7) hx hb htg ig_5 hown hK hP 3 (oh_wg (by decide) (sX_3 hT)) rfl 3 (by decide) (htg _ q_172) (fun _ h9 => h9) rfl dX5_survey_84 ?_
          refine lv_iload_n hx hb dX5_survey_87 rfl (lv_at hl 1 rfl) ?_
          refine lv_iconst (v := 0) hx hb dX5_survey_88 (by decide) ?_
          have n_56 : vp_in z15_3 24 := (rg_in (rn_ltu (u' := 23) (Int32.not_le.mp c_7) hz15_3 (tA_rdc (lo := 0) (hi := 24) (tX_10 hT0) (rg_in (rg_c (v := 0) (lo := 0) (hi := 0) (by decide)) (by decide)) (show _ = 0 by decide) (by decide)) (by decide)) (by decide))
          refine th_iast (T := TyX a E) (Rl := fr [(9, 10), (24, 26)] [] C) hx hb hK hP hD hS 25 (by decide) (sX_25 hT) n_56 (hT.up 25 (tA_upd (tX_25 hT) tA_any)) (fr_st hF (by decide) (by decide)) dX5_survey_89 (fun C_57 H locs e_58 hT hF hP hD hS => ?_)
          have t_59 := hT
          refine lv_iinc (v := z15_3 + 1) (lv' := [(3, .int (z15_3 + 1)), (4, .int 0), (0, .ref (a 3)), (1, .int x1), (2, .int x2)]) hx hb dX5_survey_90 hl (k := 1) rfl (by rfl) (by decide) rfl (fun ls hl => ?_)
          refine lv_goto (tgt := 15) hx hb dX5_survey_93 (by decide) ?_
          exact ih_15 _ (hd_15 ▸ mu_up 24 (rn_ltu (u' := 23) (Int32.not_le.mp c_7) hz15_3 (tA_rdc (lo := 0) (hi := 24) (tX_10 hT0) (rg_in (rg_c (v := 0) (lo := 0) (hi := 0) (by decide)) (by decide)) (show _ = 0 by decide) (by decide)) (by decide)) (by decide)) C_57 (z15_3 + 1) _ _ ls rfl (rg_w (rg_add (lo := 1) (hi := 24) (rn_ltu (u' := 23) (Int32.not_le.mp c_7) hz15_3 (tA_rdc (lo := 0) (hi := 24) (tX_10 hT0) (rg_in (rg_c (v := 0) (lo := 0) (hi := 0) (by decide)) (by decide)) (show _ = 0 by decide) (by decide)) (by decide)) (rg_c (v := 1) (lo := 1) (hi := 1) (by decide)) (by decide)) (by decide)) hT hF (fr_ste (fr_ste hLF_15 e_54 (by decide) (by decide)) e_58 (by decide) (by decide)) hP hD hS (lv_sub hl [0, 2, 3, 4] rfl)
        · refine lv_iconst (v := 1) hx hb dX5_survey_60 (by decide) ?_
          refine lv_goto (tgt := 65) hx hb dX5_survey_61 (by decide) ?_
          refine lv_istore (lv' := [(4, .int 1), (3, .int z15_3), (0, .ref (a 3)), (1, .int x1), (2, .int x2)]) hx hb dX5_survey_65 hl (by decide) rfl (fun ls hl => ?_)
          refine lv_aload_n hx hb dX5_survey_67 rfl (lv_at hl 2 rfl) ?_
          refine va_get (D := D) (ci := 5) (v := .ref (a 24)) (C := RX5) (T := TX5) (N := 7) hx hb htg ig_5 hown hK hP 3 (oh_wg (by decide) (sX_3 hT)) rfl 2 (by decide) (htg _ q_170) (fun _ h9 => h9) rfl dX5_survey_68 ?_
          refine lv_iload_n hx hb dX5_survey_71 rfl (lv_at hl 1 rfl) ?_
          refine lv_iload hx hb dX5_survey_72 (lv_at hl 0 rfl) ?_
          refine lv_if_eq (tgt := 81) hx hb dX5_survey_74 (by decide) (fun c => absurd c (show ¬ ((1 : Int32) = 0) from by decide)) (fun _ => ?_)
          refine lv_iconst (v := 0) hx hb dX5_survey_77 (by decide) ?_
          refine lv_goto (tgt := 82) hx hb dX5_survey_78 (by decide) ?_
          have n_60 : vp_in z15_3 24 := (rg_in (rn_ltu (u' := 23) (Int32.not_le.mp c_7) hz15_3 (tA_rdc (lo := 0) (hi := 24) (tX_10 hT0) (rg_in (rg_c (v := 0) (lo := 0) (hi := 0) (by decide)) (by decide)) (show _ = 0 by decide) (by decide)) (by decide)) (by decide))
          refine th_iast (T := TyX a E) (Rl := fr [(9, 10), (24, 26)] [] C) hx hb hK hP hD hS 24 (by decide) (sX_24 hT) n_60 (hT.up 24 (tA_upd (tX_24 hT) tA_any)) (fr_st hF (by decide) (by decide)) dX5_survey_82 (fun C_61 H locs e_62 hT hF hP hD hS => ?_)
          have t_63 := hT
          refine lv_aload_n hx hb dX5_survey_83 rfl (lv_at hl 2 rfl) ?_
          refine va_get (D := D) (ci := 5) (v := .ref (a 25)) (C := RX5) (T := TX5) (N := 7) hx hb htg ig_5 hown hK hP 3 (oh_wg (by decide) (sX_3 hT)) rfl 3 (by decide) (htg _ q_172) (fun _ h9 => h9) rfl dX5_survey_84 ?_
          refine lv_iload_n hx hb dX5_survey_87 rfl (lv_at hl 1 rfl) ?_
          refine lv_iconst (v := 0) hx hb dX5_survey_88 (by decide) ?_
          have n_64 : vp_in z15_3 24 := (rg_in (rn_ltu (u' := 23) (Int32.not_le.mp c_7) hz15_3 (tA_rdc (lo := 0) (hi := 24) (tX_10 hT0) (rg_in (rg_c (v := 0) (lo := 0) (hi := 0) (by decide)) (by decide)) (show _ = 0 by decide) (by decide)) (by decide)) (by decide))
          refine th_iast (T := TyX a E) (Rl := fr [(9, 10), (24, 26)] [] C) hx hb hK hP hD hS 25 (by decide) (sX_25 hT) n_64 (hT.up 25 (tA_upd (tX_25 hT) tA_any)) (fr_st hF (by decide) (by decide)) dX5_survey_89 (fun C_65 H locs e_66 hT hF hP hD hS => ?_)
          have t_67 := hT
          refine lv_iinc (v := z15_3 + 1) (lv' := [(3, .int (z15_3 + 1)), (4, .int 1), (0, .ref (a 3)), (1, .int x1), (2, .int x2)]) hx hb dX5_survey_90 hl (k := 1) rfl (by rfl) (by decide) rfl (fun ls hl => ?_)
          refine lv_goto (tgt := 15) hx hb dX5_survey_93 (by decide) ?_
          exact ih_15 _ (hd_15 ▸ mu_up 24 (rn_ltu (u' := 23) (Int32.not_le.mp c_7) hz15_3 (tA_rdc (lo := 0) (hi := 24) (tX_10 hT0) (rg_in (rg_c (v := 0) (lo := 0) (hi := 0) (by decide)) (by decide)) (show _ = 0 by decide) (by decide)) (by decide)) (by decide)) C_65 (z15_3 + 1) _ _ ls rfl (rg_w (rg_add (lo := 1) (hi := 24) (rn_ltu (u' := 23) (Int32.not_le.mp c_7) hz15_3 (tA_rdc (lo := 0) (hi := 24) (tX_10 hT0) (rg_in (rg_c (v := 0) (lo := 0) (hi := 0) (by decide)) (by decide)) (show _ = 0 by decide) (by decide)) (by decide)) (rg_c (v := 1) (lo := 1) (hi := 1) (by decide)) (by decide)) (by decide)) hT hF (fr_ste (fr_ste hLF_15 e_62 (by decide) (by decide)) e_66 (by decide) (by decide)) hP hD hS (lv_sub hl [0, 2, 3, 4] rfl)
  exact L_15 _ C_2 0 _ _ ls rfl (rg_w (rg_c (v := 0) (lo := 0) (hi := 0) (by decide)) (by decide)) hT hF fr_rf hP hD hS (lv_sub hl [0, 1, 2, 3] rfl)

set_option maxHeartbeats 4000000 in
set_option maxRecDepth 100000 in
theorem c_X5_engines (l : Launch) (D : va_G) (E : Nat → ClassId) (G : Nat → Nat) (a : Nat → Nat) (C : Nat → va_E) (hT : TyX a E C) (x1 : Int32) (hx1 : rg x1 0 23) : Met l yX5_engines (oh_w yX5_engines cX5_engines 2 (some .int)) ({ frames := 1, cells := 0, slots := 0, locals := 22 }) (oh_Pp D E G [.ref (a 3), .int x1] (oh_W 35 a C)) (vp_Si (fun r => True)) 0 0 (fun _ => False) := by
  refine Met.ofW (cc := cX5_engines) (maxL := 2) (ret := (some .int)) (by decide) rfl ?_
  intro p e s m args below meth c s₁ B hml hv
  obtain ⟨rfl, hP, hK, hG⟩ := hv
  have hx := B.exec
  have hb := B.bytes
  have hr := B.returns
  have hts := atoms_spec (ws := (oh_w yX5_engines cX5_engines 2 (some .int))) B.pre
  have htg : ∀ w ∈ oh_t, w.before _ s = true := fun w h => hts w (List.mem_cons_of_mem _ h)
  have hown : s.vm.findClass RX5 = some m.cls := findClass_of_methodNamed B.named
  have hlocks := B.notSynchronized
  have hT0 := hT
  have hS : va_S (fun _ => False) s.heap s.heap [] := va_S.rf
  have hl := lv_entry ([.ref (a 3), .int x1]) (n := 2) (Nat.le_of_ble_eq_true rfl)
  rw [lg_entry_eq]
  generalize (lg_sl ([.ref (a 3), .int x1]) ++ List.replicate (2 - (lg_sl ([.ref (a 3), .int x1])).length) Slot.unset).toArray = ls at hl ⊢
  have hl : lv_has ls 2 [(0, .ref (a 3)), (1, .int x1)] := hl
  refine oh_genQ (fun Q hQ => ?_)
  refine lv_iconst (v := 1) hx hb dX5_engines_0 (by decide) ?_
  refine lv_aload_n hx hb dX5_engines_1 rfl (lv_at hl 0 rfl) ?_
  refine va_get (D := D) (ci := 5) (v := .ref (a 1)) (C := RX5) (T := TX5) (N := 7) hx hb htg ig_5 hown hK hP 3 (oh_wg (by decide) (sX_3 hT)) rfl 0 (by decide) (htg _ q_167) (fun _ h9 => h9) rfl dX5_engines_2 ?_
  refine lv_iload_n hx hb dX5_engines_5 rfl (lv_at hl 1 rfl) ?_
  refine lv_iconst (v := 3) hx hb dX5_engines_6 (by decide) ?_
  refine tq_V (As := [.int x1, .int 3]) (rest := [.int 1]) (ws := (oh_W 35 a C)) ⟨hx, hb, hml, hown, htg⟩ (c_X0_ofRoad l D E G a C hT x1 (3 : Int32) (rg_w hx1 (by decide)) (rg_w (rg_c (v := 3) (lo := 3) (hi := 3) (by decide)) (by decide))) (cwV 2 htg (oh_gV q_755 q_480 q_481 q_67 q_482) rfl rfl rfl pdVX0_ofRoad ⟨Nat.le_of_ble_eq_true rfl, Nat.le_of_ble_eq_true rfl⟩) hK hP hG hS (va_recv hK hP (ci := 0) (q0 := 1) rfl (oh_wg (by decide) (sX_1 hT))) rfl hl.1 rfl (Nat.le_of_ble_eq_true rfl) dX5_engines_7 ⟨Nat.le_of_ble_eq_true rfl, Nat.le_of_ble_eq_true rfl⟩ (fun r_1 hq_2 => ?_)
  subst hq_2
  refine lv_aload_n hx hb dX5_engines_10 rfl (lv_at hl 0 rfl) ?_
  refine va_get (D := D) (ci := 5) (v := .ref (a 9)) (C := RX5) (T := TX5) (N := 7) hx hb htg ig_5 hown hK hP 3 (oh_wg (by decide) (sX_3 hT)) rfl 1 (by decide) (htg _ q_168) (fun _ h9 => h9) rfl dX5_engines_11 ?_
  refine va_get (D := D) (ci := 1) (v := .int (gi (C 9) 3)) (C := RX1) (T := TX1) (N := 5) hx hb htg ig_1 hown hK hP 9 (oh_wg (by decide) (sX_9 hT)) rfl 3 (by decide) (htg _ q_150) (fun _ h9 => h9) rfl dX5_engines_14 ?_
  refine lv_imul hx hb dX5_engines_17 ?_
  refine lv_bipush (v := 100) hx hb dX5_engines_18 (by decide) ?_
  refine lv_idiv hx hb dX5_engines_20 (by decide) ?_
  refine lv_iadd hx hb dX5_engines_21 ?_
  rw [hQ]
  exact W.iret (v := 1 + (((ga (C 11) ((x1 * 7) + 3).toNatClampNeg) * (gi (C 9) 3)) / 100)) hx hb hr (fun t ht hW => ⟨1 + (((ga (C 11) ((x1 * 7) + 3).toNatClampNeg) * (gi (C 9) 3)) / 100), rfl, trivial, ht⟩) (fun q h => by cases h) dX5_engines_22

set_option maxHeartbeats 4000000 in
set_option maxRecDepth 100000 in
theorem c_X5_coinOf (l : Launch) (D : va_G) (E : Nat → ClassId) (G : Nat → Nat) (a : Nat → Nat) (C : Nat → va_E) (hT : TyX a E C) (x1 : Int32) (x2 : Int32) (hx1 : rg x1 0 23) : Met l yX5_coinOf (oh_w yX5_coinOf cX5_coinOf 3 (some .int)) ({ frames := 2, cells := 0, slots := 0, locals := 43 }) (oh_Pp D E G [.ref (a 3), .int x1, .int x2] (oh_W 35 a C)) (vp_Si (fun r => True)) 0 0 (fun _ => False) := by
  refine Met.ofW (cc := cX5_coinOf) (maxL := 3) (ret := (some .int)) (by decide) rfl ?_
  intro p e s m args below meth c s₁ B hml hv
  obtain ⟨rfl, hP, hK, hG⟩ := hv
  have hx := B.exec
  have hb := B.bytes
  have hr := B.returns
  have hts := atoms_spec (ws := (oh_w yX5_coinOf cX5_coinOf 3 (some .int))) B.pre
  have htg : ∀ w ∈ oh_t, w.before _ s = true := fun w h => hts w (List.mem_cons_of_mem _ h)
  have hown : s.vm.findClass RX5 = some m.cls := findClass_of_methodNamed B.named
  have hlocks := B.notSynchronized
  have hT0 := hT
  have hS : va_S (fun _ => False) s.heap s.heap [] := va_S.rf
  have hl := lv_entry ([.ref (a 3), .int x1, .int x2]) (n := 3) (Nat.le_of_ble_eq_true rfl)
  rw [lg_entry_eq]
  generalize (lg_sl ([.ref (a 3), .int x1, .int x2]) ++ List.replicate (3 - (lg_sl ([.ref (a 3), .int x1, .int x2])).length) Slot.unset).toArray = ls at hl ⊢
  have hl : lv_has ls 3 [(0, .ref (a 3)), (1, .int x1), (2, .int x2)] := hl
  refine oh_genQ (fun Q hQ => ?_)
  refine lv_iload_n hx hb dX5_coinOf_0 rfl (lv_at hl 2 rfl) ?_
  refine lv_aload_n hx hb dX5_coinOf_1 rfl (lv_at hl 0 rfl) ?_
  refine va_get (D := D) (ci := 5) (v := .ref (a 1)) (C := RX5) (T := TX5) (N := 7) hx hb htg ig_5 hown hK hP 3 (oh_wg (by decide) (sX_3 hT)) rfl 0 (by decide) (htg _ q_167) (fun _ h9 => h9) rfl dX5_coinOf_2 ?_
  refine va_get (D := D) (ci := 0) (v := .ref (a 15)) (C := RX0) (T := TX0) (N := 8) hx hb htg ig_0 hown hK hP 1 (oh_wg (by decide) (sX_1 hT)) rfl 5 (by decide) (htg _ q_109) (fun _ h9 => h9) rfl dX5_coinOf_5 ?_
  refine lv_iconst (v := 1) hx hb dX5_coinOf_8 (by decide) ?_
  refine th_iald hx hb hK hP 15 (by decide) (sX_15 hT) (rg_in (rg_c (v := 1) (lo := 1) (hi := 1) (by decide)) (by decide)) dX5_coinOf_9 ?_
  refine lv_imul hx hb dX5_coinOf_10 ?_
  refine lv_aload_n hx hb dX5_coinOf_11 rfl (lv_at hl 0 rfl) ?_
  refine va_get (D := D) (ci := 5) (v := .ref (a 1)) (C := RX5) (T := TX5) (N := 7) hx hb htg ig_5 hown hK hP 3 (oh_wg (by decide) (sX_3 hT)) rfl 0 (by decide) (htg _ q_167) (fun _ h9 => h9) rfl dX5_coinOf_12 ?_
  refine lv_iload_n hx hb dX5_coinOf_15 rfl (lv_at hl 1 rfl) ?_
  refine lv_iconst (v := 2) hx hb dX5_coinOf_16 (by decide) ?_
  refine tq_V (As := [.int x1, .int 2]) (rest := [.int (x2 * (ga (C 15) ((1 : Int32)).toNatClampNeg))]) (ws := (oh_W 35 a C)) ⟨hx, hb, hml, hown, htg⟩ (c_X0_ofRoad l D E G a C hT x1 (2 : Int32) (rg_w hx1 (by decide)) (rg_w (rg_c (v := 2) (lo := 2) (hi := 2) (by decide)) (by decide))) (cwV 2 htg (oh_gV q_755 q_480 q_481 q_67 q_482) rfl rfl rfl pdVX0_ofRoad ⟨Nat.le_of_ble_eq_true rfl, Nat.le_of_ble_eq_true rfl⟩) hK hP hG hS (va_recv hK hP (ci := 0) (q0 := 1) rfl (oh_wg (by decide) (sX_1 hT))) rfl hl.1 rfl (Nat.le_of_ble_eq_true rfl) dX5_coinOf_17 ⟨Nat.le_of_ble_eq_true rfl, Nat.le_of_ble_eq_true rfl⟩ (fun r_1 hq_2 => ?_)
  subst hq_2
  refine lv_imul hx hb dX5_coinOf_20 ?_
  refine lv_aload_n hx hb dX5_coinOf_21 rfl (lv_at hl 0 rfl) ?_
  refine lv_iload_n hx hb dX5_coinOf_22 rfl (lv_at hl 1 rfl) ?_
  refine tq_V (As := [.int x1]) (rest := [.int ((x2 * (ga (C 15) ((1 : Int32)).toNatClampNeg)) * (ga (C 11) ((x1 * 7) + 2).toNatClampNeg))]) (ws := (oh_W 35 a C)) ⟨hx, hb, hml, hown, htg⟩ (c_X5_engines l D E G a C hT x1 (rg_w hx1 (by decide))) (cwV 1 htg (oh_gV q_766 q_759 q_760 q_68 q_761) rfl rfl rfl pdVX5_engines ⟨Nat.le_of_ble_eq_true rfl, Nat.le_of_ble_eq_true rfl⟩) hK hP hG hS (va_recv hK hP (ci := 5) (q0 := 3) rfl (oh_wg (by decide) (sX_3 hT))) rfl hl.1 rfl (Nat.le_of_ble_eq_true rfl) dX5_coinOf_23 ⟨Nat.le_of_ble_eq_true rfl, Nat.le_of_ble_eq_true rfl⟩ (fun r_3 hq_4 => ?_)
  refine lv_imul hx hb dX5_coinOf_26 ?_
  refine lv_aload_n hx hb dX5_coinOf_27 rfl (lv_at hl 0 rfl) ?_
  refine va_get (D := D) (ci := 5) (v := .ref (a 25)) (C := RX5) (T := TX5) (N := 7) hx hb htg ig_5 hown hK hP 3 (oh_wg (by decide) (sX_3 hT)) rfl 3 (by decide) (htg _ q_172) (fun _ h9 => h9) rfl dX5_coinOf_28 ?_
  refine lv_iload_n hx hb dX5_coinOf_31 rfl (lv_at hl 1 rfl) ?_
  have n_5 : vp_in x1 24 := (rg_in hx1 (by decide))
  refine th_iald hx hb hK hP 25 (by decide) (sX_25 hT) n_5 dX5_coinOf_32 ?_
  refine lv_iadd hx hb dX5_coinOf_33 ?_
  rw [hQ]
  exact W.iret (v := (((x2 * (ga (C 15) ((1 : Int32)).toNatClampNeg)) * (ga (C 11) ((x1 * 7) + 2).toNatClampNeg)) * r_3) + (ga (C 25) (x1).toNatClampNeg)) hx hb hr (fun t ht hW => ⟨(((x2 * (ga (C 15) ((1 : Int32)).toNatClampNeg)) * (ga (C 11) ((x1 * 7) + 2).toNatClampNeg)) * r_3) + (ga (C 25) (x1).toNatClampNeg), rfl, trivial, ht⟩) (fun q h => by cases h) dX5_coinOf_34

set_option maxHeartbeats 4000000 in
set_option maxRecDepth 100000 in
theorem c_X5_daysOf (l : Launch) (D : va_G) (E : Nat → ClassId) (G : Nat → Nat) (a : Nat → Nat) (C : Nat → va_E) (hT : TyX a E C) (x1 : Int32) (hx1 : rg x1 0 23) : Met l yX5_daysOf (oh_w yX5_daysOf cX5_daysOf 2 (some .int)) ({ frames := 1, cells := 0, slots := 0, locals := 22 }) (oh_Pp D E G [.ref (a 3), .int x1] (oh_W 35 a C)) (vp_Si (fun r => True)) 0 0 (fun _ => False) := by
  refine Met.ofW (cc := cX5_daysOf) (maxL := 2) (ret := (some .int)) (by decide) rfl ?_
  intro p e s m args below meth c s₁ B hml hv
  obtain ⟨rfl, hP, hK, hG⟩ := hv
  have hx := B.exec
  have hb := B.bytes
  have hr := B.returns
  have hts := atoms_spec (ws := (oh_w yX5_daysOf cX5_daysOf 2 (some .int))) B.pre
  have htg : ∀ w ∈ oh_t, w.before _ s = true := fun w h => hts w (List.mem_cons_of_mem _ h)
  have hown : s.vm.findClass RX5 = some m.cls := findClass_of_methodNamed B.named
  have hlocks := B.notSynchronized
  have hT0 := hT
  have hS : va_S (fun _ => False) s.heap s.heap [] := va_S.rf
  have hl := lv_entry ([.ref (a 3), .int x1]) (n := 2) (Nat.le_of_ble_eq_true rfl)
  rw [lg_entry_eq]
  generalize (lg_sl ([.ref (a 3), .int x1]) ++ List.replicate (2 - (lg_sl ([.ref (a 3), .int x1])).length) Slot.unset).toArray = ls at hl ⊢
  have hl : lv_has ls 2 [(0, .ref (a 3)), (1, .int x1)] := hl
  refine oh_genQ (fun Q hQ => ?_)
  refine lv_aload_n hx hb dX5_daysOf_0 rfl (lv_at hl 0 rfl) ?_
  refine va_get (D := D) (ci := 5) (v := .ref (a 1)) (C := RX5) (T := TX5) (N := 7) hx hb htg ig_5 hown hK hP 3 (oh_wg (by decide) (sX_3 hT)) rfl 0 (by decide) (htg _ q_167) (fun _ h9 => h9) rfl dX5_daysOf_1 ?_
  refine lv_iload_n hx hb dX5_daysOf_4 rfl (lv_at hl 1 rfl) ?_
  refine lv_iconst (v := 2) hx hb dX5_daysOf_5 (by decide) ?_
  refine tq_V (As := [.int x1, .int 2]) (rest := []) (ws := (oh_W 35 a C)) ⟨hx, hb, hml, hown, htg⟩ (c_X0_ofRoad l D E G a C hT x1 (2 : Int32) (rg_w hx1 (by decide)) (rg_w (rg_c (v := 2) (lo := 2) (hi := 2) (by decide)) (by decide))) (cwV 2 htg (oh_gV q_755 q_480 q_481 q_67 q_482) rfl rfl rfl pdVX0_ofRoad ⟨Nat.le_of_ble_eq_true rfl, Nat.le_of_ble_eq_true rfl⟩) hK hP hG hS (va_recv hK hP (ci := 0) (q0 := 1) rfl (oh_wg (by decide) (sX_1 hT))) rfl hl.1 rfl (Nat.le_of_ble_eq_true rfl) dX5_daysOf_6 ⟨Nat.le_of_ble_eq_true rfl, Nat.le_of_ble_eq_true rfl⟩ (fun r_1 hq_2 => ?_)
  subst hq_2
  refine lv_bipush (v := 10) hx hb dX5_daysOf_9 (by decide) ?_
  refine tq_SN (As := [.int (ga (C 11) ((x1 * 7) + 2).toNatClampNeg), .int 10]) (rest := []) (ws := []) ⟨hx, hb, hml, hown, htg⟩ (c_X6_roundedUp l D E G (ga (C 11) ((x1 * 7) + 2).toNatClampNeg) (10 : Int32)) ⟨va_cnB (y := yX6_roundedUp) 2 htg (oh_gW q_718) rfl rfl rfl (hG.1 ("OneHeavyLoad$Ways", 75, ⟨"OneHeavyLoad", "roundedUp", "(II)I"⟩, "OneHeavyLoad") (List.mem_of_getElem? (i := 5) rfl)) (htg _ q_66) pdX6_roundedUp ⟨Nat.le_of_ble_eq_true rfl, Nat.le_of_ble_eq_true rfl⟩, htg _ q_717, trivial⟩ hK va_nil hG hS rfl hl.1 rfl (Nat.le_of_ble_eq_true rfl) dX5_daysOf_11 ⟨Nat.le_of_ble_eq_true rfl, Nat.le_of_ble_eq_true rfl⟩ (fun r_3 hq_4 => ?_)
  refine lv_iconst (v := 3) hx hb dX5_daysOf_14 (by decide) ?_
  refine lv_aload_n hx hb dX5_daysOf_15 rfl (lv_at hl 0 rfl) ?_
  refine va_get (D := D) (ci := 5) (v := .ref (a 24)) (C := RX5) (T := TX5) (N := 7) hx hb htg ig_5 hown hK hP 3 (oh_wg (by decide) (sX_3 hT)) rfl 2 (by decide) (htg _ q_170) (fun _ h9 => h9) rfl dX5_daysOf_16 ?_
  refine lv_iload_n hx hb dX5_daysOf_19 rfl (lv_at hl 1 rfl) ?_
  have n_5 : vp_in x1 24 := (rg_in hx1 (by decide))
  refine th_iald hx hb hK hP 24 (by decide) (sX_24 hT) n_5 dX5_daysOf_20 ?_
  refine lv_imul hx hb dX5_daysOf_21 ?_
  refine lv_iadd hx hb dX5_daysOf_22 ?_
  rw [hQ]
  exact W.iret (v := r_3 + (3 * (ga (C 24) (x1).toNatClampNeg))) hx hb hr (fun t ht hW => ⟨r_3 + (3 * (ga (C 24) (x1).toNatClampNeg)), rfl, trivial, ht⟩) (fun q h => by cases h) dX5_daysOf_23

set_option maxHeartbeats 4000000 in
set_option maxRecDepth 100000 in
theorem c_X5_priceByCoin (l : Launch) (D : va_G) (E : Nat → ClassId) (G : Nat → Nat) (sz : Nat) (a : Nat → Nat) (C : Nat → va_E) (hT : TyX a E C) (x1 : Int32) : Met l yX5_priceByCoin (oh_w yX5_priceByCoin cX5_priceByCoin 3 none) ({ frames := 3, cells := 0, slots := 0, locals := 65 }) (oh_Pm D E G [.ref (a 3), .int x1] (oh_W 35 a C) sz) (va_Qv (fun (u : Nat → va_E) => TyX a E u ∧ fr [(26, 27)] [] C u ∧ True) (oh_B D (va_A (oh_W 35 a C) sz) (fun u => oh_W 35 a u)) (va_A (oh_W 35 a C) sz)) 0 0 (va_A (oh_W 35 a C) sz) := by
  refine Met.ofW (cc := cX5_priceByCoin) (maxL := 3) (ret := none) (by decide) rfl ?_
  intro p e s m args below meth c s₁ B hml hv
  obtain ⟨rfl, hsz, hP, hK, hD0, hG⟩ := hv
  have hx := B.exec
  have hb := B.bytes
  have hr := B.returns
  have hts := atoms_spec (ws := (oh_w yX5_priceByCoin cX5_priceByCoin 3 none)) B.pre
  have htg : ∀ w ∈ oh_t, w.before _ s = true := fun w h => hts w (List.mem_cons_of_mem _ h)
  have hown : s.vm.findClass RX5 = some m.cls := findClass_of_methodNamed B.named
  have hlocks := B.notSynchronized
  have hT0 := hT
  subst hsz
  have hD := hD0.self (sz := s.heap.size)
  generalize hAe : va_A (oh_W 35 a C) s.heap.size = A at hD hG ⊢
  have hA : ∀ q : Nat, s.heap.size ≤ q → A q := fun q h => by rw [← hAe]; exact Or.inr h
  have hS : va_S A s.heap s.heap [] := va_S.rf
  have hF : fr [(26, 27)] [] C C := fr_rf
  have hl := lv_entry ([.ref (a 3), .int x1]) (n := 3) (Nat.le_of_ble_eq_true rfl)
  rw [lg_entry_eq]
  generalize (lg_sl ([.ref (a 3), .int x1]) ++ List.replicate (3 - (lg_sl ([.ref (a 3), .int x1])).length) Slot.unset).toArray = ls at hl ⊢
  have hl : lv_has ls 3 [(0, .ref (a 3)), (1, .int x1)] := hl
  refine oh_genQ (fun Q hQ => ?_)
  refine lv_iconst (v := 0) hx hb dX5_priceByCoin_0 (by decide) ?_
  refine lv_istore_n (lv' := [(2, .int 0), (0, .ref (a 3)), (1, .int x1)]) hx hb dX5_priceByCoin_1 rfl hl (by decide) rfl (fun ls hl => ?_)
  have L_2 : ∀ (d : Nat) (K2 : Nat → va_E) (z2_2 : Int32) (H : Heap) (locs : List Loc) (ls : Array Slot), (24 - z2_2.toInt).toNat = d → rg z2_2 0 24 → TyX a E K2 → fr [(26, 27)] [] C K2 → fr [(26, 27)] [] C K2 → va_P D vwCl (oh_W 35 a K2) H → va_D A (oh_W 35 a K2) → va_S A s.heap H locs → lv_has ls 3 [(2, .int z2_2), (0, .ref (a 3)), (1, .int x1)] → W p l e ({ frames := 3, cells := 0, slots := 0, locals := 65 }) s m (([.ref (a 3), .int x1] : List Value).toArray) below meth c H locs 0 0 Q (F0 m 2 ls []) := by
    intro d
    induction d using Nat.strongRecOn with
    | ind d ih_2 =>
    intro K2 z2_2 H locs ls hd_2 hz2_2 hT hF hLF_2 hP hD hS hl
    have t_1 := hT
    refine lv_iload_n hx hb dX5_priceByCoin_2 rfl (lv_at hl 0 rfl) ?_
    refine lv_aload_n hx hb dX5_priceByCoin_3 rfl (lv_at hl 1 rfl) ?_
    refine va_get (D := D) (ci := 5) (v := .ref (a 1)) (C := RX5) (T := TX5) (N := 7) hx hb htg ig_5 hown hK hP 3 (oh_wg (by decide) (sX_3 hT)) rfl 0 (by decide) (htg _ q_167) (fun _ h9 => h9) rfl dX5_priceByCoin_4 ?_
    refine va_get (D := D) (ci := 0) (v := .ref (a 10)) (C := RX0) (T := TX0) (N := 8) hx hb htg ig_0 hown hK hP 1 (oh_wg (by decide) (sX_1 hT)) rfl 0 (by decide) (htg _ q_99) (fun _ h9 => h9) rfl dX5_priceByCoin_7 ?_
    refine lv_iconst (v := 0) hx hb dX5_priceByCoin_10 (by decide) ?_
    refine th_iald hx hb hK hP 10 (by decide) (Eq.trans (hLF_2.1 10 rfl (by decide)) (sX_10 hT0)) (rg_in (rg_c (v := 0) (lo := 0) (hi := 0) (by decide)) (by decide)) dX5_priceByCoin_11 ?_
    refine lv_icmp_ge (tgt := 33) hx hb dX5_priceByCoin_12 (by decide) (fun (c_2 : (ga (C 10) ((0 : Int32)).toNatClampNeg) ≤ z2_2) => ?_) (fun (c_2 : ¬ ((ga (C 10) ((0 : Int32)).toNatClampNeg) ≤ z2_2)) => ?_)
    · rw [hQ]
      exact W.vret hx hb hr (fun t ht hW => ⟨⟨K2, rfl, ⟨hT, hF, trivial⟩, ⟨by rw [ht]; exact hP, hD⟩⟩, hS.F ht⟩) hS.2.2 dX5_priceByCoin_33
    · refine lv_aload_n hx hb dX5_priceByCoin_15 rfl (lv_at hl 1 rfl) ?_
      refine va_get (D := D) (ci := 5) (v := .ref (a 26)) (C := RX5) (T := TX5) (N := 7) hx hb htg ig_5 hown hK hP 3 (oh_wg (by decide) (sX_3 hT)) rfl 4 (by decide) (htg _ q_173) (fun _ h9 => h9) rfl dX5_priceByCoin_16 ?_
      refine lv_iload_n hx hb dX5_priceByCoin_19 rfl (lv_at hl 0 rfl) ?_
      refine lv_aload_n hx hb dX5_priceByCoin_20 rfl (lv_at hl 1 rfl) ?_
      refine lv_iload_n hx hb dX5_priceByCoin_21 rfl (lv_at hl 0 rfl) ?_
      refine lv_iload_n hx hb dX5_priceByCoin_22 rfl (lv_at hl 2 rfl) ?_
      refine tq_V (As := [.int z2_2, .int x1]) (rest := [.int z2_2, .ref (a 26)]) (ws := (oh_W 35 a K2)) ⟨hx, hb, hml, hown, htg⟩ (c_X5_coinOf l D E G a K2 hT z2_2 x1 (rg_w (rn_ltu (u' := 23) (Int32.not_le.mp c_2) hz2_2 (tA_rdc (lo := 0) (hi := 24) (tX_10 hT0) (rg_in (rg_c (v := 0) (lo := 0) (hi := 0) (by decide)) (by decide)) (show _ = 0 by decide) (by decide)) (by decide)) (by decide))) (cwV 2 htg (oh_gV q_789 q_763 q_764 q_68 q_765) rfl rfl rfl pdVX5_coinOf ⟨Nat.le_of_ble_eq_true rfl, Nat.le_of_ble_eq_true rfl⟩) hK hP hG hS (va_recv hK hP (ci := 5) (q0 := 3) rfl (oh_wg (by decide) (sX_3 hT))) rfl hl.1 rfl (Nat.le_of_ble_eq_true rfl) dX5_priceByCoin_23 ⟨Nat.le_of_ble_eq_true rfl, Nat.le_of_ble_eq_true rfl⟩ (fun r_3 hq_4 => ?_)
      have n_5 : vp_in z2_2 24 := (rg_in (rn_ltu (u' := 23) (Int32.not_le.mp c_2) hz2_2 (tA_rdc (lo := 0) (hi := 24) (tX_10 hT0) (rg_in (rg_c (v := 0) (lo := 0) (hi := 0) (by decide)) (by decide)) (show _ = 0 by decide) (by decide)) (by decide)) (by decide))
      refine th_iast (T := TyX a E) (Rl := fr [(26, 27)] [] C) hx hb hK hP hD hS 26 (by decide) (sX_26 hT) n_5 (hT.up 26 (tA_upd (tX_26 hT) tA_any)) (fr_st hF (by decide) (by decide)) dX5_priceByCoin_26 (fun C_6 H locs e_7 hT hF hP hD hS => ?_)
      have t_8 := hT
      refine lv_iinc (v := z2_2 + 1) (lv' := [(2, .int (z2_2 + 1)), (0, .ref (a 3)), (1, .int x1)]) hx hb dX5_priceByCoin_27 hl (k := 0) rfl (by rfl) (by decide) rfl (fun ls hl => ?_)
      refine lv_goto (tgt := 2) hx hb dX5_priceByCoin_30 (by decide) ?_
      exact ih_2 _ (hd_2 ▸ mu_up 24 (rn_ltu (u' := 23) (Int32.not_le.mp c_2) hz2_2 (tA_rdc (lo := 0) (hi := 24) (tX_10 hT0) (rg_in (rg_c (v := 0) (lo := 0) (hi := 0) (by decide)) (by decide)) (show _ = 0 by decide) (by decide)) (by decide)) (by decide)) C_6 (z2_2 + 1) _ _ ls rfl (rg_w (rg_add (lo := 1) (hi := 24) (rn_ltu (u' := 23) (Int32.not_le.mp c_2) hz2_2 (tA_rdc (lo := 0) (hi := 24) (tX_10 hT0) (rg_in (rg_c (v := 0) (lo := 0) (hi := 0) (by decide)) (by decide)) (show _ = 0 by decide) (by decide)) (by decide)) (rg_c (v := 1) (lo := 1) (hi := 1) (by decide)) (by decide)) (by decide)) hT hF (fr_ste hLF_2 e_7 (by decide) (by decide)) hP hD hS (lv_sub hl [0, 1, 2] rfl)
  exact L_2 _ C 0 _ _ ls rfl (rg_w (rg_c (v := 0) (lo := 0) (hi := 0) (by decide)) (by decide)) hT hF fr_rf hP hD hS (lv_sub hl [0, 1, 2] rfl)

set_option maxHeartbeats 4000000 in
set_option maxRecDepth 100000 in
theorem c_X5_shorten (l : Launch) (D : va_G) (E : Nat → ClassId) (G : Nat → Nat) (sz : Nat) (a : Nat → Nat) (C : Nat → va_E) (hT : TyX a E C) (x1 : Int32) (hx1 : rg x1 0 23) : Met l yX5_shorten (oh_w yX5_shorten cX5_shorten 4 (some .boolean)) ({ frames := 1, cells := 0, slots := 0, locals := 22 }) (oh_Pm D E G [.ref (a 3), .int x1] (oh_W 35 a C) sz) (va_Qi (fun r (u : Nat → va_E) => TyX a E u ∧ fr [(27, 28)] [] C u ∧ (r = 0 ∨ r = 1)) (oh_B D (va_A (oh_W 35 a C) sz) (fun u => oh_W 35 a u)) (va_A (oh_W 35 a C) sz)) 0 0 (va_A (oh_W 35 a C) sz) := by
  refine Met.ofW (cc := cX5_shorten) (maxL := 4) (ret := (some .boolean)) (by decide) rfl ?_
  intro p e s m args below meth c s₁ B hml hv
  obtain ⟨rfl, hsz, hP, hK, hD0, hG⟩ := hv
  have hx := B.exec
  have hb := B.bytes
  have hr := B.returns
  have hts := atoms_spec (ws := (oh_w yX5_shorten cX5_shorten 4 (some .boolean))) B.pre
  have htg : ∀ w ∈ oh_t, w.before _ s = true := fun w h => hts w (List.mem_cons_of_mem _ h)
  have hown : s.vm.findClass RX5 = some m.cls := findClass_of_methodNamed B.named
  have hlocks := B.notSynchronized
  have hT0 := hT
  subst hsz
  have hD := hD0.self (sz := s.heap.size)
  generalize hAe : va_A (oh_W 35 a C) s.heap.size = A at hD hG ⊢
  have hA : ∀ q : Nat, s.heap.size ≤ q → A q := fun q h => by rw [← hAe]; exact Or.inr h
  have hS : va_S A s.heap s.heap [] := va_S.rf
  have hF : fr [(27, 28)] [] C C := fr_rf
  have hl := lv_entry ([.ref (a 3), .int x1]) (n := 4) (Nat.le_of_ble_eq_true rfl)
  rw [lg_entry_eq]
  generalize (lg_sl ([.ref (a 3), .int x1]) ++ List.replicate (4 - (lg_sl ([.ref (a 3), .int x1])).length) Slot.unset).toArray = ls at hl ⊢
  have hl : lv_has ls 4 [(0, .ref (a 3)), (1, .int x1)] := hl
  refine oh_genQ (fun Q hQ => ?_)
  refine lv_aload_n hx hb dX5_shorten_0 rfl (lv_at hl 0 rfl) ?_
  refine va_get (D := D) (ci := 5) (v := .ref (a 1)) (C := RX5) (T := TX5) (N := 7) hx hb htg ig_5 hown hK hP 3 (oh_wg (by decide) (sX_3 hT)) rfl 0 (by decide) (htg _ q_167) (fun _ h9 => h9) rfl dX5_shorten_1 ?_
  refine lv_iload_n hx hb dX5_shorten_4 rfl (lv_at hl 1 rfl) ?_
  refine lv_iconst (v := 0) hx hb dX5_shorten_5 (by decide) ?_
  refine tq_V (As := [.int x1, .int 0]) (rest := []) (ws := (oh_W 35 a C)) ⟨hx, hb, hml, hown, htg⟩ (c_X0_ofRoad l D E G a C hT x1 (0 : Int32) (rg_w hx1 (by decide)) (rg_w (rg_c (v := 0) (lo := 0) (hi := 0) (by decide)) (by decide))) (cwV 2 htg (oh_gV q_755 q_480 q_481 q_67 q_482) rfl rfl rfl pdVX0_ofRoad ⟨Nat.le_of_ble_eq_true rfl, Nat.le_of_ble_eq_true rfl⟩) hK hP hG hS (va_recv hK hP (ci := 0) (q0 := 1) rfl (oh_wg (by decide) (sX_1 hT))) rfl hl.1 rfl (Nat.le_of_ble_eq_true rfl) dX5_shorten_6 ⟨Nat.le_of_ble_eq_true rfl, Nat.le_of_ble_eq_true rfl⟩ (fun r_1 hq_2 => ?_)
  subst hq_2
  refine lv_istore_n (lv' := [(2, .int (ga (C 11) ((x1 * 7) + 0).toNatClampNeg)), (0, .ref (a 3)), (1, .int x1)]) hx hb dX5_shorten_9 rfl hl (by decide) rfl (fun ls hl => ?_)
  refine lv_aload_n hx hb dX5_shorten_10 rfl (lv_at hl 1 rfl) ?_
  refine va_get (D := D) (ci := 5) (v := .ref (a 1)) (C := RX5) (T := TX5) (N := 7) hx hb htg ig_5 hown hK hP 3 (oh_wg (by decide) (sX_3 hT)) rfl 0 (by decide) (htg _ q_167) (fun _ h9 => h9) rfl dX5_shorten_11 ?_
  refine lv_iload_n hx hb dX5_shorten_14 rfl (lv_at hl 2 rfl) ?_
  refine lv_iconst (v := 1) hx hb dX5_shorten_15 (by decide) ?_
  refine tq_V (As := [.int x1, .int 1]) (rest := []) (ws := (oh_W 35 a C)) ⟨hx, hb, hml, hown, htg⟩ (c_X0_ofRoad l D E G a C hT x1 (1 : Int32) (rg_w hx1 (by decide)) (rg_w (rg_c (v := 1) (lo := 1) (hi := 1) (by decide)) (by decide))) (cwV 2 htg (oh_gV q_755 q_480 q_481 q_67 q_482) rfl rfl rfl pdVX0_ofRoad ⟨Nat.le_of_ble_eq_true rfl, Nat.le_of_ble_eq_true rfl⟩) hK hP hG hS (va_recv hK hP (ci := 0) (q0 := 1) rfl (oh_wg (by decide) (sX_1 hT))) rfl hl.1 rfl (Nat.le_of_ble_eq_true rfl) dX5_shorten_16 ⟨Nat.le_of_ble_eq_true rfl, Nat.le_of_ble_eq_true rfl⟩ (fun r_3 hq_4 => ?_)
  subst hq_4
  refine lv_istore_n (lv' := [(3, .int (ga (C 11) ((x1 * 7) + 1).toNatClampNeg)), (2, .int (ga (C 11) ((x1 * 7) + 0).toNatClampNeg)), (0, .ref (a 3)), (1, .int x1)]) hx hb dX5_shorten_19 rfl hl (by decide) rfl (fun ls hl => ?_)
  refine lv_aload_n hx hb dX5_shorten_20 rfl (lv_at hl 2 rfl) ?_
  refine va_get (D := D) (ci := 5) (v := .ref (a 27)) (C := RX5) (T := TX5) (N := 7) hx hb htg ig_5 hown hK hP 3 (oh_wg (by decide) (sX_3 hT)) rfl 5 (by decide) (htg _ q_174) (fun _ h9 => h9) rfl dX5_shorten_21 ?_
  refine lv_iload_n hx hb dX5_shorten_24 rfl (lv_at hl 1 rfl) ?_
  have n_5 : vp_in (ga (C 11) ((x1 * 7) + 0).toNatClampNeg) 16 := (rg_in (tA_rdc (lo := 0) (hi := 15) (tX_11 hT0) (rg_in (rg_add (lo := 0) (hi := 161) (rg_mul (lo := 0) (hi := 161) hx1 (rg_c (v := 7) (lo := 7) (hi := 7) (by decide)) (by decide)) (rg_c (v := 0) (lo := 0) (hi := 0) (by decide)) (by decide)) (by decide)) (oh_col (W := 7) hx1 rfl (rg_c (v := 0) (lo := 0) (hi := 0) (by decide)) (by decide)) (by decide)) (by decide))
  refine th_iald hx hb hK hP 27 (by decide) (sX_27 hT) n_5 dX5_shorten_25 ?_
  refine lv_ldc (v := 1000000000) hx hb hown (htg _ q_794) dX5_shorten_26 ?_
  refine lv_icmp_eq (tgt := 74) hx hb dX5_shorten_28 (by decide) (fun (c_6 : (ga (C 27) (ga (C 11) ((x1 * 7) + 0).toNatClampNeg).toNatClampNeg) = 1000000000) => ?_) (fun (c_6 : ¬ ((ga (C 27) (ga (C 11) ((x1 * 7) + 0).toNatClampNeg).toNatClampNeg) = 1000000000)) => ?_)
  · refine lv_aload_n hx hb dX5_shorten_74 rfl (lv_at hl 2 rfl) ?_
    refine va_get (D := D) (ci := 5) (v := .ref (a 27)) (C := RX5) (T := TX5) (N := 7) hx hb htg ig_5 hown hK hP 3 (oh_wg (by decide) (sX_3 hT)) rfl 5 (by decide) (htg _ q_174) (fun _ h9 => h9) rfl dX5_shorten_75 ?_
    refine lv_iload_n hx hb dX5_shorten_78 rfl (lv_at hl 0 rfl) ?_
    have n_7 : vp_in (ga (C 11) ((x1 * 7) + 1).toNatClampNeg) 16 := (rg_in (tA_rdc (lo := 0) (hi := 15) (tX_11 hT0) (rg_in (rg_add (lo := 1) (hi := 162) (rg_mul (lo := 0) (hi := 161) hx1 (rg_c (v := 7) (lo := 7) (hi := 7) (by decide)) (by decide)) (rg_c (v := 1) (lo := 1) (hi := 1) (by decide)) (by decide)) (by decide)) (oh_col (W := 7) hx1 rfl (rg_c (v := 1) (lo := 1) (hi := 1) (by decide)) (by decide)) (by decide)) (by decide))
    refine th_iald hx hb hK hP 27 (by decide) (sX_27 hT) n_7 dX5_shorten_79 ?_
    refine lv_ldc (v := 1000000000) hx hb hown (htg _ q_794) dX5_shorten_80 ?_
    refine lv_icmp_eq (tgt := 128) hx hb dX5_shorten_82 (by decide) (fun (c_8 : (ga (C 27) (ga (C 11) ((x1 * 7) + 1).toNatClampNeg).toNatClampNeg) = 1000000000) => ?_) (fun (c_8 : ¬ ((ga (C 27) (ga (C 11) ((x1 * 7) + 1).toNatClampNeg).toNatClampNeg) = 1000000000)) => ?_)
    · refine lv_iconst (v := 0) hx hb dX5_shorten_128 (by decide) ?_
      rw [hQ]
      exact W.zret (v := 0) (ty := .boolean) hx hb hr (by decide) (fun t ht hW => ⟨⟨0, C, rfl, ⟨hT, hF, (Or.inl rfl)⟩, ⟨by rw [ht]; exact hP, hD⟩⟩, hS.F ht⟩) hS.2.2 dX5_shorten_129
    · refine lv_aload_n hx hb dX5_shorten_85 rfl (lv_at hl 2 rfl) ?_
      refine va_get (D := D) (ci := 5) (v := .ref (a 27)) (C := RX5) (T := TX5) (N := 7) hx hb htg ig_5 hown hK hP 3 (oh_wg (by decide) (sX_3 hT)) rfl 5 (by decide) (htg _ q_174) (fun _ h9 => h9) rfl dX5_shorten_86 ?_
      refine lv_iload_n hx hb dX5_shorten_89 rfl (lv_at hl 0 rfl) ?_
      have n_9 : vp_in (ga (C 11) ((x1 * 7) + 1).toNatClampNeg) 16 := (rg_in (tA_rdc (lo := 0) (hi := 15) (tX_11 hT0) (rg_in (rg_add (lo := 1) (hi := 162) (rg_mul (lo := 0) (hi := 161) hx1 (rg_c (v := 7) (lo := 7) (hi := 7) (by decide)) (by decide)) (rg_c (v := 1) (lo := 1) (hi := 1) (by decide)) (by decide)) (by decide)) (oh_col (W := 7) hx1 rfl (rg_c (v := 1) (lo := 1) (hi := 1) (by decide)) (by decide)) (by decide)) (by decide))
      refine th_iald hx hb hK hP 27 (by decide) (sX_27 hT) n_9 dX5_shorten_90 ?_
      refine lv_aload_n hx hb dX5_shorten_91 rfl (lv_at hl 2 rfl) ?_
      refine va_get (D := D) (ci := 5) (v := .ref (a 26)) (C := RX5) (T := TX5) (N := 7) hx hb htg ig_5 hown hK hP 3 (oh_wg (by decide) (sX_3 hT)) rfl 4 (by decide) (htg _ q_173) (fun _ h9 => h9) rfl dX5_shorten_92 ?_
      refine lv_iload_n hx hb dX5_shorten_95 rfl (lv_at hl 3 rfl) ?_
      have n_10 : vp_in x1 24 := (rg_in hx1 (by decide))
      refine th_iald hx hb hK hP 26 (by decide) (sX_26 hT) n_10 dX5_shorten_96 ?_
      refine lv_iadd hx hb dX5_shorten_97 ?_
      refine lv_aload_n hx hb dX5_shorten_98 rfl (lv_at hl 2 rfl) ?_
      refine va_get (D := D) (ci := 5) (v := .ref (a 27)) (C := RX5) (T := TX5) (N := 7) hx hb htg ig_5 hown hK hP 3 (oh_wg (by decide) (sX_3 hT)) rfl 5 (by decide) (htg _ q_174) (fun _ h9 => h9) rfl dX5_shorten_99 ?_
      refine lv_iload_n hx hb dX5_shorten_102 rfl (lv_at hl 1 rfl) ?_
      have n_11 : vp_in (ga (C 11) ((x1 * 7) + 0).toNatClampNeg) 16 := (rg_in (tA_rdc (lo := 0) (hi := 15) (tX_11 hT0) (rg_in (rg_add (lo := 0) (hi := 161) (rg_mul (lo := 0) (hi := 161) hx1 (rg_c (v := 7) (lo := 7) (hi := 7) (by decide)) (by decide)) (rg_c (v := 0) (lo := 0) (hi := 0) (by decide)) (by decide)) (by decide)) (oh_col (W := 7) hx1 rfl (rg_c (v := 0) (lo := 0) (hi := 0) (by decide)) (by decide)) (by decide)) (by decide))
      refine th_iald hx hb hK hP 27 (by decide) (sX_27 hT) n_11 dX5_shorten_103 ?_
      refine lv_icmp_ge (tgt := 128) hx hb dX5_shorten_104 (by decide) (fun (c_12 : (ga (C 27) (ga (C 11) ((x1 * 7) + 0).toNatClampNeg).toNatClampNeg) ≤ ((ga (C 27) (ga (C 11) ((x1 * 7) + 1).toNatClampNeg).toNatClampNeg) + (ga (C 26) (x1).toNatClampNeg))) => ?_) (fun (c_12 : ¬ ((ga (C 27) (ga (C 11) ((x1 * 7) + 0).toNatClampNeg).toNatClampNeg) ≤ ((ga (C 27) (ga (C 11) ((x1 * 7) + 1).toNatClampNeg).toNatClampNeg) + (ga (C 26) (x1).toNatClampNeg)))) => ?_)
      · refine lv_iconst (v := 0) hx hb dX5_shorten_128 (by decide) ?_
        rw [hQ]
        exact W.zret (v := 0) (ty := .boolean) hx hb hr (by decide) (fun t ht hW => ⟨⟨0, C, rfl, ⟨hT, hF, (Or.inl rfl)⟩, ⟨by rw [ht]; exact hP, hD⟩⟩, hS.F ht⟩) hS.2.2 dX5_shorten_129
      · refine lv_aload_n hx hb dX5_shorten_107 rfl (lv_at hl 2 rfl) ?_
        refine va_get (D := D) (ci := 5) (v := .ref (a 27)) (C := RX5) (T := TX5) (N := 7) hx hb htg ig_5 hown hK hP 3 (oh_wg (by decide) (sX_3 hT)) rfl 5 (by decide) (htg _ q_174) (fun _ h9 => h9) rfl dX5_shorten_108 ?_
        refine lv_iload_n hx hb dX5_shorten_111 rfl (lv_at hl 1 rfl) ?_
        refine lv_aload_n hx hb dX5_shorten_112 rfl (lv_at hl 2 rfl) ?_
        refine va_get (D := D) (ci := 5) (v := .ref (a 27)) (C := RX5) (T := TX5) (N := 7) hx hb htg ig_5 hown hK hP 3 (oh_wg (by decide) (sX_3 hT)) rfl 5 (by decide) (htg _ q_174) (fun _ h9 => h9) rfl dX5_shorten_113 ?_
        refine lv_iload_n hx hb dX5_shorten_116 rfl (lv_at hl 0 rfl) ?_
        have n_13 : vp_in (ga (C 11) ((x1 * 7) + 1).toNatClampNeg) 16 := (rg_in (tA_rdc (lo := 0) (hi := 15) (tX_11 hT0) (rg_in (rg_add (lo := 1) (hi := 162) (rg_mul (lo := 0) (hi := 161) hx1 (rg_c (v := 7) (lo := 7) (hi := 7) (by decide)) (by decide)) (rg_c (v := 1) (lo := 1) (hi := 1) (by decide)) (by decide)) (by decide)) (oh_col (W := 7) hx1 rfl (rg_c (v := 1) (lo := 1) (hi := 1) (by decide)) (by decide)) (by decide)) (by decide))
        refine th_iald hx hb hK hP 27 (by decide) (sX_27 hT) n_13 dX5_shorten_117 ?_
        refine lv_aload_n hx hb dX5_shorten_118 rfl (lv_at hl 2 rfl) ?_
        refine va_get (D := D) (ci := 5) (v := .ref (a 26)) (C := RX5) (T := TX5) (N := 7) hx hb htg ig_5 hown hK hP 3 (oh_wg (by decide) (sX_3 hT)) rfl 4 (by decide) (htg _ q_173) (fun _ h9 => h9) rfl dX5_shorten_119 ?_
        refine lv_iload_n hx hb dX5_shorten_122 rfl (lv_at hl 3 rfl) ?_
        have n_14 : vp_in x1 24 := (rg_in hx1 (by decide))
        refine th_iald hx hb hK hP 26 (by decide) (sX_26 hT) n_14 dX5_shorten_123 ?_
        refine lv_iadd hx hb dX5_shorten_124 ?_
        have n_15 : vp_in (ga (C 11) ((x1 * 7) + 0).toNatClampNeg) 16 := (rg_in (tA_rdc (lo := 0) (hi := 15) (tX_11 hT0) (rg_in (rg_add (lo := 0) (hi := 161) (rg_mul (lo := 0) (hi := 161) hx1 (rg_c (v := 7) (lo := 7) (hi := 7) (by decide)) (by decide)) (rg_c (v := 0) (lo := 0) (hi := 0) (by decide)) (by decide)) (by decide)) (oh_col (W := 7) hx1 rfl (rg_c (v := 0) (lo := 0) (hi := 0) (by decide)) (by decide)) (by decide)) (by decide))
        refine th_iast (T := TyX a E) (Rl := fr [(27, 28)] [] C) hx hb hK hP hD hS 27 (by decide) (sX_27 hT) n_15 (hT.up 27 (tA_upd (tX_27 hT) tA_any)) (fr_st hF (by decide) (by decide)) dX5_shorten_125 (fun C_16 H locs e_17 hT hF hP hD hS => ?_)
        have t_18 := hT
        refine lv_iconst (v := 1) hx hb dX5_shorten_126 (by decide) ?_
        rw [hQ]
        exact W.zret (v := 1) (ty := .boolean) hx hb hr (by decide) (fun t ht hW => ⟨⟨1, C_16, rfl, ⟨hT, hF, (Or.inr rfl)⟩, ⟨by rw [ht]; exact hP, hD⟩⟩, hS.F ht⟩) hS.2.2 dX5_shorten_127
  · refine lv_aload_n hx hb dX5_shorten_31 rfl (lv_at hl 2 rfl) ?_
    refine va_get (D := D) (ci := 5) (v := .ref (a 27)) (C := RX5) (T := TX5) (N := 7) hx hb htg ig_5 hown hK hP 3 (oh_wg (by decide) (sX_3 hT)) rfl 5 (by decide) (htg _ q_174) (fun _ h9 => h9) rfl dX5_shorten_32 ?_
    refine lv_iload_n hx hb dX5_shorten_35 rfl (lv_at hl 1 rfl) ?_
    have n_19 : vp_in (ga (C 11) ((x1 * 7) + 0).toNatClampNeg) 16 := (rg_in (tA_rdc (lo := 0) (hi := 15) (tX_11 hT0) (rg_in (rg_add (lo := 0) (hi := 161) (rg_mul (lo := 0) (hi := 161) hx1 (rg_c (v := 7) (lo := 7) (hi := 7) (by decide)) (by decide)) (rg_c (v := 0) (lo := 0) (hi := 0) (by decide)) (by decide)) (by decide)) (oh_col (W := 7) hx1 rfl (rg_c (v := 0) (lo := 0) (hi := 0) (by decide)) (by decide)) (by decide)) (by decide))
    refine th_iald hx hb hK hP 27 (by decide) (sX_27 hT) n_19 dX5_shorten_36 ?_
    refine lv_aload_n hx hb dX5_shorten_37 rfl (lv_at hl 2 rfl) ?_
    refine va_get (D := D) (ci := 5) (v := .ref (a 26)) (C := RX5) (T := TX5) (N := 7) hx hb htg ig_5 hown hK hP 3 (oh_wg (by decide) (sX_3 hT)) rfl 4 (by decide) (htg _ q_173) (fun _ h9 => h9) rfl dX5_shorten_38 ?_
    refine lv_iload_n hx hb dX5_shorten_41 rfl (lv_at hl 3 rfl) ?_
    have n_20 : vp_in x1 24 := (rg_in hx1 (by decide))
    refine th_iald hx hb hK hP 26 (by decide) (sX_26 hT) n_20 dX5_shorten_42 ?_
    refine lv_iadd hx hb dX5_shorten_43 ?_
    refine lv_aload_n hx hb dX5_shorten_44 rfl (lv_at hl 2 rfl) ?_
    refine va_get (D := D) (ci := 5) (v := .ref (a 27)) (C := RX5) (T := TX5) (N := 7) hx hb htg ig_5 hown hK hP 3 (oh_wg (by decide) (sX_3 hT)) rfl 5 (by decide) (htg _ q_174) (fun _ h9 => h9) rfl dX5_shorten_45 ?_
    refine lv_iload_n hx hb dX5_shorten_48 rfl (lv_at hl 0 rfl) ?_
    have n_21 : vp_in (ga (C 11) ((x1 * 7) + 1).toNatClampNeg) 16 := (rg_in (tA_rdc (lo := 0) (hi := 15) (tX_11 hT0) (rg_in (rg_add (lo := 1) (hi := 162) (rg_mul (lo := 0) (hi := 161) hx1 (rg_c (v := 7) (lo := 7) (hi := 7) (by decide)) (by decide)) (rg_c (v := 1) (lo := 1) (hi := 1) (by decide)) (by decide)) (by decide)) (oh_col (W := 7) hx1 rfl (rg_c (v := 1) (lo := 1) (hi := 1) (by decide)) (by decide)) (by decide)) (by decide))
    refine th_iald hx hb hK hP 27 (by decide) (sX_27 hT) n_21 dX5_shorten_49 ?_
    refine lv_icmp_ge (tgt := 74) hx hb dX5_shorten_50 (by decide) (fun (c_22 : (ga (C 27) (ga (C 11) ((x1 * 7) + 1).toNatClampNeg).toNatClampNeg) ≤ ((ga (C 27) (ga (C 11) ((x1 * 7) + 0).toNatClampNeg).toNatClampNeg) + (ga (C 26) (x1).toNatClampNeg))) => ?_) (fun (c_22 : ¬ ((ga (C 27) (ga (C 11) ((x1 * 7) + 1).toNatClampNeg).toNatClampNeg) ≤ ((ga (C 27) (ga (C 11) ((x1 * 7) + 0).toNatClampNeg).toNatClampNeg) + (ga (C 26) (x1).toNatClampNeg)))) => ?_)
    · refine lv_aload_n hx hb dX5_shorten_74 rfl (lv_at hl 2 rfl) ?_
      refine va_get (D := D) (ci := 5) (v := .ref (a 27)) (C := RX5) (T := TX5) (N := 7) hx hb htg ig_5 hown hK hP 3 (oh_wg (by decide) (sX_3 hT)) rfl 5 (by decide) (htg _ q_174) (fun _ h9 => h9) rfl dX5_shorten_75 ?_
      refine lv_iload_n hx hb dX5_shorten_78 rfl (lv_at hl 0 rfl) ?_
      have n_23 : vp_in (ga (C 11) ((x1 * 7) + 1).toNatClampNeg) 16 := (rg_in (tA_rdc (lo := 0) (hi := 15) (tX_11 hT0) (rg_in (rg_add (lo := 1) (hi := 162) (rg_mul (lo := 0) (hi := 161) hx1 (rg_c (v := 7) (lo := 7) (hi := 7) (by decide)) (by decide)) (rg_c (v := 1) (lo := 1) (hi := 1) (by decide)) (by decide)) (by decide)) (oh_col (W := 7) hx1 rfl (rg_c (v := 1) (lo := 1) (hi := 1) (by decide)) (by decide)) (by decide)) (by decide))
      refine th_iald hx hb hK hP 27 (by decide) (sX_27 hT) n_23 dX5_shorten_79 ?_
      refine lv_ldc (v := 1000000000) hx hb hown (htg _ q_794) dX5_shorten_80 ?_
      refine lv_icmp_eq (tgt := 128) hx hb dX5_shorten_82 (by decide) (fun (c_24 : (ga (C 27) (ga (C 11) ((x1 * 7) + 1).toNatClampNeg).toNatClampNeg) = 1000000000) => ?_) (fun (c_24 : ¬ ((ga (C 27) (ga (C 11) ((x1 * 7) + 1).toNatClampNeg).toNatClampNeg) = 1000000000)) => ?_)
      · refine lv_iconst (v := 0) hx hb dX5_shorten_128 (by decide) ?_
        rw [hQ]
        exact W.zret (v := 0) (ty := .boolean) hx hb hr (by decide) (fun t ht hW => ⟨⟨0, C, rfl, ⟨hT, hF, (Or.inl rfl)⟩, ⟨by rw [ht]; exact hP, hD⟩⟩, hS.F ht⟩) hS.2.2 dX5_shorten_129
      · refine lv_aload_n hx hb dX5_shorten_85 rfl (lv_at hl 2 rfl) ?_
        refine va_get (D := D) (ci := 5) (v := .ref (a 27)) (C := RX5) (T := TX5) (N := 7) hx hb htg ig_5 hown hK hP 3 (oh_wg (by decide) (sX_3 hT)) rfl 5 (by decide) (htg _ q_174) (fun _ h9 => h9) rfl dX5_shorten_86 ?_
        refine lv_iload_n hx hb dX5_shorten_89 rfl (lv_at hl 0 rfl) ?_
        have n_25 : vp_in (ga (C 11) ((x1 * 7) + 1).toNatClampNeg) 16 := (rg_in (tA_rdc (lo := 0) (hi := 15) (tX_11 hT0) (rg_in (rg_add (lo := 1) (hi := 162) (rg_mul (lo := 0) (hi := 161) hx1 (rg_c (v := 7) (lo := 7) (hi := 7) (by decide)) (by decide)) (rg_c (v := 1) (lo := 1) (hi := 1) (by decide)) (by decide)) (by decide)) (oh_col (W := 7) hx1 rfl (rg_c (v := 1) (lo := 1) (hi := 1) (by decide)) (by decide)) (by decide)) (by decide))
        refine th_iald hx hb hK hP 27 (by decide) (sX_27 hT) n_25 dX5_shorten_90 ?_
        refine lv_aload_n hx hb dX5_shorten_91 rfl (lv_at hl 2 rfl) ?_
        refine va_get (D := D) (ci := 5) (v := .ref (a 26)) (C := RX5) (T := TX5) (N := 7) hx hb htg ig_5 hown hK hP 3 (oh_wg (by decide) (sX_3 hT)) rfl 4 (by decide) (htg _ q_173) (fun _ h9 => h9) rfl dX5_shorten_92 ?_
        refine lv_iload_n hx hb dX5_shorten_95 rfl (lv_at hl 3 rfl) ?_
        have n_26 : vp_in x1 24 := (rg_in hx1 (by decide))
        refine th_iald hx hb hK hP 26 (by decide) (sX_26 hT) n_26 dX5_shorten_96 ?_
        refine lv_iadd hx hb dX5_shorten_97 ?_
        refine lv_aload_n hx hb dX5_shorten_98 rfl (lv_at hl 2 rfl) ?_
        refine va_get (D := D) (ci := 5) (v := .ref (a 27)) (C := RX5) (T := TX5) (N := 7) hx hb htg ig_5 hown hK hP 3 (oh_wg (by decide) (sX_3 hT)) rfl 5 (by decide) (htg _ q_174) (fun _ h9 => h9) rfl dX5_shorten_99 ?_
        refine lv_iload_n hx hb dX5_shorten_102 rfl (lv_at hl 1 rfl) ?_
        have n_27 : vp_in (ga (C 11) ((x1 * 7) + 0).toNatClampNeg) 16 := (rg_in (tA_rdc (lo := 0) (hi := 15) (tX_11 hT0) (rg_in (rg_add (lo := 0) (hi := 161) (rg_mul (lo := 0) (hi := 161) hx1 (rg_c (v := 7) (lo := 7) (hi := 7) (by decide)) (by decide)) (rg_c (v := 0) (lo := 0) (hi := 0) (by decide)) (by decide)) (by decide)) (oh_col (W := 7) hx1 rfl (rg_c (v := 0) (lo := 0) (hi := 0) (by decide)) (by decide)) (by decide)) (by decide))
        refine th_iald hx hb hK hP 27 (by decide) (sX_27 hT) n_27 dX5_shorten_103 ?_
        refine lv_icmp_ge (tgt := 128) hx hb dX5_shorten_104 (by decide) (fun (c_28 : (ga (C 27) (ga (C 11) ((x1 * 7) + 0).toNatClampNeg).toNatClampNeg) ≤ ((ga (C 27) (ga (C 11) ((x1 * 7) + 1).toNatClampNeg).toNatClampNeg) + (ga (C 26) (x1).toNatClampNeg))) => ?_) (fun (c_28 : ¬ ((ga (C 27) (ga (C 11) ((x1 * 7) + 0).toNatClampNeg).toNatClampNeg) ≤ ((ga (C 27) (ga (C 11) ((x1 * 7) + 1).toNatClampNeg).toNatClampNeg) + (ga (C 26) (x1).toNatClampNeg)))) => ?_)
        · refine lv_iconst (v := 0) hx hb dX5_shorten_128 (by decide) ?_
          rw [hQ]
          exact W.zret (v := 0) (ty := .boolean) hx hb hr (by decide) (fun t ht hW => ⟨⟨0, C, rfl, ⟨hT, hF, (Or.inl rfl)⟩, ⟨by rw [ht]; exact hP, hD⟩⟩, hS.F ht⟩) hS.2.2 dX5_shorten_129
        · refine lv_aload_n hx hb dX5_shorten_107 rfl (lv_at hl 2 rfl) ?_
          refine va_get (D := D) (ci := 5) (v := .ref (a 27)) (C := RX5) (T := TX5) (N := 7) hx hb htg ig_5 hown hK hP 3 (oh_wg (by decide) (sX_3 hT)) rfl 5 (by decide) (htg _ q_174) (fun _ h9 => h9) rfl dX5_shorten_108 ?_
          refine lv_iload_n hx hb dX5_shorten_111 rfl (lv_at hl 1 rfl) ?_
          refine lv_aload_n hx hb dX5_shorten_112 rfl (lv_at hl 2 rfl) ?_
          refine va_get (D := D) (ci := 5) (v := .ref (a 27)) (C := RX5) (T := TX5) (N := 7) hx hb htg ig_5 hown hK hP 3 (oh_wg (by decide) (sX_3 hT)) rfl 5 (by decide) (htg _ q_174) (fun _ h9 => h9) rfl dX5_shorten_113 ?_
          refine lv_iload_n hx hb dX5_shorten_116 rfl (lv_at hl 0 rfl) ?_
          have n_29 : vp_in (ga (C 11) ((x1 * 7) + 1).toNatClampNeg) 16 := (rg_in (tA_rdc (lo := 0) (hi := 15) (tX_11 hT0) (rg_in (rg_add (lo := 1) (hi := 162) (rg_mul (lo := 0) (hi := 161) hx1 (rg_c (v := 7) (lo := 7) (hi := 7) (by decide)) (by decide)) (rg_c (v := 1) (lo := 1) (hi := 1) (by decide)) (by decide)) (by decide)) (oh_col (W := 7) hx1 rfl (rg_c (v := 1) (lo := 1) (hi := 1) (by decide)) (by decide)) (by decide)) (by decide))
          refine th_iald hx hb hK hP 27 (by decide) (sX_27 hT) n_29 dX5_shorten_117 ?_
          refine lv_aload_n hx hb dX5_shorten_118 rfl (lv_at hl 2 rfl) ?_
          refine va_get (D := D) (ci := 5) (v := .ref (a 26)) (C := RX5) (T := TX5) (N := 7) hx hb htg ig_5 hown hK hP 3 (oh_wg (by decide) (sX_3 hT)) rfl 4 (by decide) (htg _ q_173) (fun _ h9 => h9) rfl dX5_shorten_119 ?_
          refine lv_iload_n hx hb dX5_shorten_122 rfl (lv_at hl 3 rfl) ?_
          have n_30 : vp_in x1 24 := (rg_in hx1 (by decide))
          refine th_iald hx hb hK hP 26 (by decide) (sX_26 hT) n_30 dX5_shorten_123 ?_
          refine lv_iadd hx hb dX5_shorten_124 ?_
          have n_31 : vp_in (ga (C 11) ((x1 * 7) + 0).toNatClampNeg) 16 := (rg_in (tA_rdc (lo := 0) (hi := 15) (tX_11 hT0) (rg_in (rg_add (lo := 0) (hi := 161) (rg_mul (lo := 0) (hi := 161) hx1 (rg_c (v := 7) (lo := 7) (hi := 7) (by decide)) (by decide)) (rg_c (v := 0) (lo := 0) (hi := 0) (by decide)) (by decide)) (by decide)) (oh_col (W := 7) hx1 rfl (rg_c (v := 0) (lo := 0) (hi := 0) (by decide)) (by decide)) (by decide)) (by decide))
          refine th_iast (T := TyX a E) (Rl := fr [(27, 28)] [] C) hx hb hK hP hD hS 27 (by decide) (sX_27 hT) n_31 (hT.up 27 (tA_upd (tX_27 hT) tA_any)) (fr_st hF (by decide) (by decide)) dX5_shorten_125 (fun C_32 H locs e_33 hT hF hP hD hS => ?_)
          have t_34 := hT
          refine lv_iconst (v := 1) hx hb dX5_shorten_126 (by decide) ?_
          rw [hQ]
          exact W.zret (v := 1) (ty := .boolean) hx hb hr (by decide) (fun t ht hW => ⟨⟨1, C_32, rfl, ⟨hT, hF, (Or.inr rfl)⟩, ⟨by rw [ht]; exact hP, hD⟩⟩, hS.F ht⟩) hS.2.2 dX5_shorten_127
    · refine lv_aload_n hx hb dX5_shorten_53 rfl (lv_at hl 2 rfl) ?_
      refine va_get (D := D) (ci := 5) (v := .ref (a 27)) (C := RX5) (T := TX5) (N := 7) hx hb htg ig_5 hown hK hP 3 (oh_wg (by decide) (sX_3 hT)) rfl 5 (by decide) (htg _ q_174) (fun _ h9 => h9) rfl dX5_shorten_54 ?_
      refine lv_iload_n hx hb dX5_shorten_57 rfl (lv_at hl 0 rfl) ?_
      refine lv_aload_n hx hb dX5_shorten_58 rfl (lv_at hl 2 rfl) ?_
      refine va_get (D := D) (ci := 5) (v := .ref (a 27)) (C := RX5) (T := TX5) (N := 7) hx hb htg ig_5 hown hK hP 3 (oh_wg (by decide) (sX_3 hT)) rfl 5 (by decide) (htg _ q_174) (fun _ h9 => h9) rfl dX5_shorten_59 ?_
      refine lv_iload_n hx hb dX5_shorten_62 rfl (lv_at hl 1 rfl) ?_
      have n_35 : vp_in (ga (C 11) ((x1 * 7) + 0).toNatClampNeg) 16 := (rg_in (tA_rdc (lo := 0) (hi := 15) (tX_11 hT0) (rg_in (rg_add (lo := 0) (hi := 161) (rg_mul (lo := 0) (hi := 161) hx1 (rg_c (v := 7) (lo := 7) (hi := 7) (by decide)) (by decide)) (rg_c (v := 0) (lo := 0) (hi := 0) (by decide)) (by decide)) (by decide)) (oh_col (W := 7) hx1 rfl (rg_c (v := 0) (lo := 0) (hi := 0) (by decide)) (by decide)) (by decide)) (by decide))
      refine th_iald hx hb hK hP 27 (by decide) (sX_27 hT) n_35 dX5_shorten_63 ?_
      refine lv_aload_n hx hb dX5_shorten_64 rfl (lv_at hl 2 rfl) ?_
      refine va_get (D := D) (ci := 5) (v := .ref (a 26)) (C := RX5) (T := TX5) (N := 7) hx hb htg ig_5 hown hK hP 3 (oh_wg (by decide) (sX_3 hT)) rfl 4 (by decide) (htg _ q_173) (fun _ h9 => h9) rfl dX5_shorten_65 ?_
      refine lv_iload_n hx hb dX5_shorten_68 rfl (lv_at hl 3 rfl) ?_
      have n_36 : vp_in x1 24 := (rg_in hx1 (by decide))
      refine th_iald hx hb hK hP 26 (by decide) (sX_26 hT) n_36 dX5_shorten_69 ?_
      refine lv_iadd hx hb dX5_shorten_70 ?_
      have n_37 : vp_in (ga (C 11) ((x1 * 7) + 1).toNatClampNeg) 16 := (rg_in (tA_rdc (lo := 0) (hi := 15) (tX_11 hT0) (rg_in (rg_add (lo := 1) (hi := 162) (rg_mul (lo := 0) (hi := 161) hx1 (rg_c (v := 7) (lo := 7) (hi := 7) (by decide)) (by decide)) (rg_c (v := 1) (lo := 1) (hi := 1) (by decide)) (by decide)) (by decide)) (oh_col (W := 7) hx1 rfl (rg_c (v := 1) (lo := 1) (hi := 1) (by decide)) (by decide)) (by decide)) (by decide))
      refine th_iast (T := TyX a E) (Rl := fr [(27, 28)] [] C) hx hb hK hP hD hS 27 (by decide) (sX_27 hT) n_37 (hT.up 27 (tA_upd (tX_27 hT) tA_any)) (fr_st hF (by decide) (by decide)) dX5_shorten_71 (fun C_38 H locs e_39 hT hF hP hD hS => ?_)
      have t_40 := hT
      refine lv_iconst (v := 1) hx hb dX5_shorten_72 (by decide) ?_
      rw [hQ]
      exact W.zret (v := 1) (ty := .boolean) hx hb hr (by decide) (fun t ht hW => ⟨⟨1, C_38, rfl, ⟨hT, hF, (Or.inr rfl)⟩, ⟨by rw [ht]; exact hP, hD⟩⟩, hS.F ht⟩) hS.2.2 dX5_shorten_73

set_option maxHeartbeats 4000000 in
set_option maxRecDepth 100000 in
theorem c_X5_spread (l : Launch) (D : va_G) (E : Nat → ClassId) (G : Nat → Nat) (sz : Nat) (a : Nat → Nat) (C : Nat → va_E) (hT : TyX a E C) (x1 : Int32) (hx1 : rg x1 0 15) : Met l yX5_spread (oh_w yX5_spread cX5_spread 5 none) ({ frames := 2, cells := 0, slots := 0, locals := 45 }) (oh_Pm D E G [.ref (a 3), .int x1] (oh_W 35 a C) sz) (va_Qv (fun (u : Nat → va_E) => TyX a E u ∧ fr [(27, 28)] [] C u ∧ True) (oh_B D (va_A (oh_W 35 a C) sz) (fun u => oh_W 35 a u)) (va_A (oh_W 35 a C) sz)) 0 0 (va_A (oh_W 35 a C) sz) := by
  refine Met.ofW (cc := cX5_spread) (maxL := 5) (ret := none) (by decide) rfl ?_
  intro p e s m args below meth c s₁ B hml hv
  obtain ⟨rfl, hsz, hP, hK, hD0, hG⟩ := hv
  have hx := B.exec
  have hb := B.bytes
  have hr := B.returns
  have hts := atoms_spec (ws := (oh_w yX5_spread cX5_spread 5 none)) B.pre
  have htg : ∀ w ∈ oh_t, w.before _ s = true := fun w h => hts w (List.mem_cons_of_mem _ h)
  have hown : s.vm.findClass RX5 = some m.cls := findClass_of_methodNamed B.named
  have hlocks := B.notSynchronized
  have hT0 := hT
  subst hsz
  have hD := hD0.self (sz := s.heap.size)
  generalize hAe : va_A (oh_W 35 a C) s.heap.size = A at hD hG ⊢
  have hA : ∀ q : Nat, s.heap.size ≤ q → A q := fun q h => by rw [← hAe]; exact Or.inr h
  have hS : va_S A s.heap s.heap [] := va_S.rf
  have hF : fr [(27, 28)] [] C C := fr_rf
  have hl := lv_entry ([.ref (a 3), .int x1]) (n := 5) (Nat.le_of_ble_eq_true rfl)
  rw [lg_entry_eq]
  generalize (lg_sl ([.ref (a 3), .int x1]) ++ List.replicate (5 - (lg_sl ([.ref (a 3), .int x1])).length) Slot.unset).toArray = ls at hl ⊢
  have hl : lv_has ls 5 [(0, .ref (a 3)), (1, .int x1)] := hl
  refine oh_genQ (fun Q hQ => ?_)
  refine lv_iconst (v := 0) hx hb dX5_spread_0 (by decide) ?_
  refine lv_istore_n (lv' := [(2, .int 0), (0, .ref (a 3)), (1, .int x1)]) hx hb dX5_spread_1 rfl hl (by decide) rfl (fun ls hl => ?_)
  have L_2 : ∀ (d : Nat) (K2 : Nat → va_E) (z2_2 : Int32) (H : Heap) (locs : List Loc) (ls : Array Slot), (16 - z2_2.toInt).toNat = d → rg z2_2 0 16 → TyX a E K2 → fr [(27, 28)] [] C K2 → fr [(27, 28)] [] C K2 → va_P D vwCl (oh_W 35 a K2) H → va_D A (oh_W 35 a K2) → va_S A s.heap H locs → lv_has ls 5 [(2, .int z2_2), (0, .ref (a 3)), (1, .int x1)] → W p l e ({ frames := 2, cells := 0, slots := 0, locals := 45 }) s m (([.ref (a 3), .int x1] : List Value).toArray) below meth c H locs 0 0 Q (F0 m 2 ls []) := by
    intro d
    induction d using Nat.strongRecOn with
    | ind d ih_2 =>
    intro K2 z2_2 H locs ls hd_2 hz2_2 hT hF hLF_2 hP hD hS hl
    have t_1 := hT
    refine lv_iload_n hx hb dX5_spread_2 rfl (lv_at hl 0 rfl) ?_
    refine lv_bipush (v := 16) hx hb dX5_spread_3 (by decide) ?_
    refine lv_icmp_ge (tgt := 22) hx hb dX5_spread_5 (by decide) (fun (c_2 : (16 : Int32) ≤ z2_2) => ?_) (fun (c_2 : ¬ ((16 : Int32) ≤ z2_2)) => ?_)
    · refine lv_aload_n hx hb dX5_spread_22 rfl (lv_at hl 1 rfl) ?_
      refine va_get (D := D) (ci := 5) (v := .ref (a 27)) (C := RX5) (T := TX5) (N := 7) hx hb htg ig_5 hown hK hP 3 (oh_wg (by decide) (sX_3 hT)) rfl 5 (by decide) (htg _ q_174) (fun _ h9 => h9) rfl dX5_spread_23 ?_
      refine lv_iload_n hx hb dX5_spread_26 rfl (lv_at hl 2 rfl) ?_
      refine lv_iconst (v := 0) hx hb dX5_spread_27 (by decide) ?_
      have n_3 : vp_in x1 16 := (rg_in hx1 (by decide))
      refine th_iast (T := TyX a E) (Rl := fr [(27, 28)] [] C) hx hb hK hP hD hS 27 (by decide) (sX_27 hT) n_3 (hT.up 27 (tA_upd (tX_27 hT) tA_any)) (fr_st hF (by decide) (by decide)) dX5_spread_28 (fun C_4 H locs e_5 hT hF hP hD hS => ?_)
      have t_6 := hT
      refine lv_iconst (v := 1) hx hb dX5_spread_29 (by decide) ?_
      refine lv_istore_n (lv' := [(2, .int 1), (0, .ref (a 3)), (1, .int x1)]) hx hb dX5_spread_30 rfl hl (by decide) rfl (fun ls hl => ?_)
      refine lv_iconst (v := 0) hx hb dX5_spread_31 (by decide) ?_
      refine lv_istore_n (lv' := [(3, .int 0), (2, .int 1), (0, .ref (a 3)), (1, .int x1)]) hx hb dX5_spread_32 rfl hl (by decide) rfl (fun ls hl => ?_)
      have L_33 : ∀ (d : Nat) (K33 : Nat → va_E) (z33_3 : Int32) (z33_2 : Int32) (H : Heap) (locs : List Loc) (ls : Array Slot), (16 - z33_3.toInt).toNat = d → rg z33_3 0 16 → TyX a E K33 → fr [(27, 28)] [] C K33 → fr [(27, 28)] [] C_4 K33 → va_P D vwCl (oh_W 35 a K33) H → va_D A (oh_W 35 a K33) → va_S A s.heap H locs → lv_has ls 5 [(3, .int z33_3), (2, .int z33_2), (0, .ref (a 3)), (1, .int x1)] → W p l e ({ frames := 2, cells := 0, slots := 0, locals := 45 }) s m (([.ref (a 3), .int x1] : List Value).toArray) below meth c H locs 0 0 Q (F0 m 33 ls []) := by
        intro d
        induction d using Nat.strongRecOn with
        | ind d ih_33 =>
        intro K33 z33_3 z33_2 H locs ls hd_33 hz33_3 hT hF hLF_33 hP hD hS hl
        have t_7 := hT
        refine lv_iload_n hx hb dX5_spread_33 rfl (lv_at hl 0 rfl) ?_
        refine lv_bipush (v := 16) hx hb dX5_spread_34 (by decide) ?_
        refine lv_icmp_ge (tgt := 96) hx hb dX5_spread_36 (by decide) (fun (c_8 : (16 : Int32) ≤ z33_3) => ?_) (fun (c_8 : ¬ ((16 : Int32) ≤ z33_3)) => ?_)
        · rw [hQ]
          exact W.vret hx hb hr (fun t ht hW => ⟨⟨K33, rfl, ⟨hT, hF, trivial⟩, ⟨by rw [ht]; exact hP, hD⟩⟩, hS.F ht⟩) hS.2.2 dX5_spread_96
        · refine lv_iload_n hx hb dX5_spread_39 rfl (lv_at hl 1 rfl) ?_
          refine lv_if_eq (tgt := 96) hx hb dX5_spread_40 (by decide) (fun (c_9 : z33_2 = 0) => ?_) (fun (c_9 : ¬ (z33_2 = 0)) => ?_)
          · rw [hQ]
            exact W.vret hx hb hr (fun t ht hW => ⟨⟨K33, rfl, ⟨hT, hF, trivial⟩, ⟨by rw [ht]; exact hP, hD⟩⟩, hS.F ht⟩) hS.2.2 dX5_spread_96
          · refine lv_iconst (v := 0) hx hb dX5_spread_43 (by decide) ?_
            refine lv_istore_n (lv' := [(2, .int 0), (3, .int z33_3), (0, .ref (a 3)), (1, .int x1)]) hx hb dX5_spread_44 rfl hl (by decide) rfl (fun ls hl => ?_)
            refine lv_iconst (v := 0) hx hb dX5_spread_45 (by decide) ?_
            refine lv_istore (lv' := [(4, .int 0), (2, .int 0), (3, .int z33_3), (0, .ref (a 3)), (1, .int x1)]) hx hb dX5_spread_46 hl (by decide) rfl (fun ls hl => ?_)
            have L_48 : ∀ (d : Nat) (K48 : Nat → va_E) (z48_4 : Int32) (z48_2 : Int32) (H : Heap) (locs : List Loc) (ls : Array Slot), (24 - z48_4.toInt).toNat = d → rg z48_4 0 24 → TyX a E K48 → fr [(27, 28)] [] C K48 → fr [(27, 28)] [] K33 K48 → va_P D vwCl (oh_W 35 a K48) H → va_D A (oh_W 35 a K48) → va_S A s.heap H locs → lv_has ls 5 [(4, .int z48_4), (2, .int z48_2), (3, .int z33_3), (0, .ref (a 3)), (1, .int x1)] → W p l e ({ frames := 2, cells := 0, slots := 0, locals := 45 }) s m (([.ref (a 3), .int x1] : List Value).toArray) below meth c H locs 0 0 Q (F0 m 48 ls []) := by
              intro d
              induction d using Nat.strongRecOn with
              | ind d ih_48 =>
              intro K48 z48_4 z48_2 H locs ls hd_48 hz48_4 hT hF hLF_48 hP hD hS hl
              have t_10 := hT
              refine lv_iload hx hb dX5_spread_48 (lv_at hl 0 rfl) ?_
              refine lv_aload_n hx hb dX5_spread_50 rfl (lv_at hl 3 rfl) ?_
              refine va_get (D := D) (ci := 5) (v := .ref (a 1)) (C := RX5) (T := TX5) (N := 7) hx hb htg ig_5 hown hK hP 3 (oh_wg (by decide) (sX_3 hT)) rfl 0 (by decide) (htg _ q_167) (fun _ h9 => h9) rfl dX5_spread_51 ?_
              refine va_get (D := D) (ci := 0) (v := .ref (a 10)) (C := RX0) (T := TX0) (N := 8) hx hb htg ig_0 hown hK hP 1 (oh_wg (by decide) (sX_1 hT)) rfl 0 (by decide) (htg _ q_99) (fun _ h9 => h9) rfl dX5_spread_54 ?_
              refine lv_iconst (v := 0) hx hb dX5_spread_57 (by decide) ?_
              refine th_iald hx hb hK hP 10 (by decide) (Eq.trans (Eq.trans (hLF_48.1 10 rfl (by decide)) (Eq.trans (hLF_33.1 10 rfl (by decide)) (Eq.trans (th_un e_5 (by decide)) (hLF_2.1 10 rfl (by decide))))) (sX_10 hT0)) (rg_in (rg_c (v := 0) (lo := 0) (hi := 0) (by decide)) (by decide)) dX5_spread_58 ?_
              refine lv_icmp_ge (tgt := 90) hx hb dX5_spread_59 (by decide) (fun (c_11 : (ga (C 10) ((0 : Int32)).toNatClampNeg) ≤ z48_4) => ?_) (fun (c_11 : ¬ ((ga (C 10) ((0 : Int32)).toNatClampNeg) ≤ z48_4)) => ?_)
              · refine lv_iinc (v := z33_3 + 1) (lv' := [(3, .int (z33_3 + 1)), (4, .int z48_4), (2, .int z48_2), (0, .ref (a 3)), (1, .int x1)]) hx hb dX5_spread_90 hl (k := 2) rfl (by rfl) (by decide) rfl (fun ls hl => ?_)
                refine lv_goto (tgt := 33) hx hb dX5_spread_93 (by decide) ?_
                exact ih_33 _ (hd_33 ▸ mu_up 16 (rn_ltu (u' := 15) (Int32.not_le.mp c_8) hz33_3 (rg_c (v := 16) (lo := 16) (hi := 16) (by decide)) (by decide)) (by decide)) K48 (z33_3 + 1) z48_2 _ _ ls rfl (rg_w (rg_add (lo := 1) (hi := 16) (rn_ltu (u' := 15) (Int32.not_le.mp c_8) hz33_3 (rg_c (v := 16) (lo := 16) (hi := 16) (by decide)) (by decide)) (rg_c (v := 1) (lo := 1) (hi := 1) (by decide)) (by decide)) (by decide)) hT hF (fr_tr hLF_33 hLF_48 (by decide) (by decide)) hP hD hS (lv_sub hl [0, 2, 3, 4] rfl)
              · refine lv_aload_n hx hb dX5_spread_62 rfl (lv_at hl 3 rfl) ?_
                refine va_get (D := D) (ci := 5) (v := .ref (a 24)) (C := RX5) (T := TX5) (N := 7) hx hb htg ig_5 hown hK hP 3 (oh_wg (by decide) (sX_3 hT)) rfl 2 (by decide) (htg _ q_170) (fun _ h9 => h9) rfl dX5_spread_63 ?_
                refine lv_iload hx hb dX5_spread_66 (lv_at hl 0 rfl) ?_
                have n_12 : vp_in z48_4 24 := (rg_in (rn_ltu (u' := 23) (Int32.not_le.mp c_11) hz48_4 (tA_rdc (lo := 0) (hi := 24) (tX_10 hT0) (rg_in (rg_c (v := 0) (lo := 0) (hi := 0) (by decide)) (by decide)) (show _ = 0 by decide) (by decide)) (by decide)) (by decide))
                refine th_iald hx hb hK hP 24 (by decide) (Eq.trans (Eq.trans (hLF_48.1 24 rfl (by decide)) (Eq.trans (hLF_33.1 24 rfl (by decide)) (Eq.trans (th_un e_5 (by decide)) (hLF_2.1 24 rfl (by decide))))) (sX_24 hT0)) n_12 dX5_spread_68 ?_
                refine lv_iconst (v := (-1)) hx hb dX5_spread_69 (by decide) ?_
                refine lv_icmp_eq (tgt := 84) hx hb dX5_spread_70 (by decide) (fun (c_13 : (ga (C 24) (z48_4).toNatClampNeg) = (-1)) => ?_) (fun (c_13 : ¬ ((ga (C 24) (z48_4).toNatClampNeg) = (-1))) => ?_)
                · refine lv_iinc (v := z48_4 + 1) (lv' := [(4, .int (z48_4 + 1)), (2, .int z48_2), (3, .int z33_3), (0, .ref (a 3)), (1, .int x1)]) hx hb dX5_spread_84 hl (k := 0) rfl (by rfl) (by decide) rfl (fun ls hl => ?_)
                  refine lv_goto (tgt := 48) hx hb dX5_spread_87 (by decide) ?_
                  exact ih_48 _ (hd_48 ▸ mu_up 24 (rn_ltu (u' := 23) (Int32.not_le.mp c_11) hz48_4 (tA_rdc (lo := 0) (hi := 24) (tX_10 hT0) (rg_in (rg_c (v := 0) (lo := 0) (hi := 0) (by decide)) (by decide)) (show _ = 0 by decide) (by decide)) (by decide)) (by decide)) K48 (z48_4 + 1) z48_2 _ _ ls rfl (rg_w (rg_add (lo := 1) (hi := 24) (rn_ltu (u' := 23) (Int32.not_le.mp c_11) hz48_4 (tA_rdc (lo := 0) (hi := 24) (tX_10 hT0) (rg_in (rg_c (v := 0) (lo := 0) (hi := 0) (by decide)) (by decide)) (show _ = 0 by decide) (by decide)) (by decide)) (rg_c (v := 1) (lo := 1) (hi := 1) (by decide)) (by decide)) (by decide)) hT hF hLF_48 hP hD hS (lv_sub hl [0, 1, 2, 3, 4] rfl)
                · refine lv_aload_n hx hb dX5_spread_73 rfl (lv_at hl 3 rfl) ?_
                  refine lv_iload hx hb dX5_spread_74 (lv_at hl 0 rfl) ?_
                  refine tm_V (As := [.int z48_4]) (rest := []) ⟨hx, hb, hml, hown, htg⟩ (c_X5_shorten l D E G _ a K48 hT z48_4 (rg_w (rn_ltu (u' := 23) (Int32.not_le.mp c_11) hz48_4 (tA_rdc (lo := 0) (hi := 24) (tX_10 hT0) (rg_in (rg_c (v := 0) (lo := 0) (hi := 0) (by decide)) (by decide)) (show _ = 0 by decide) (by decide)) (by decide)) (by decide))) (cwV 1 htg (oh_gV q_795 q_797 q_20 q_68 q_798) rfl rfl rfl pdVX5_shorten ⟨Nat.le_of_ble_eq_true rfl, Nat.le_of_ble_eq_true rfl⟩) hK hP hD hG hS hA (va_recv hK hP (ci := 5) (q0 := 3) rfl (oh_wg (by decide) (sX_3 hT))) rfl hl.1 rfl (Nat.le_of_ble_eq_true rfl) dX5_spread_76 ⟨Nat.le_of_ble_eq_true rfl, Nat.le_of_ble_eq_true rfl⟩ (fun r_14 C_15 H locs hq_16 hP hD hS => ?_)
                  obtain ⟨hT, f_17, hq_16⟩ := hq_16
                  have hF := fr_tr hF f_17 (by decide) (by decide)
                  refine W.widen (k := 0) (n := 0) (Nat.le_refl _) (Nat.le_refl _) ?_
                  have t_18 := hT
                  refine lv_if_eq (tgt := 84) hx hb dX5_spread_79 (by decide) (fun (c_19 : r_14 = 0) => ?_) (fun (c_19 : ¬ (r_14 = 0)) => ?_)
                  · refine lv_iinc (v := z48_4 + 1) (lv' := [(4, .int (z48_4 + 1)), (2, .int z48_2), (3, .int z33_3), (0, .ref (a 3)), (1, .int x1)]) hx hb dX5_spread_84 hl (k := 0) rfl (by rfl) (by decide) rfl (fun ls hl => ?_)
                    refine lv_goto (tgt := 48) hx hb dX5_spread_87 (by decide) ?_
                    exact ih_48 _ (hd_48 ▸ mu_up 24 (rn_ltu (u' := 23) (Int32.not_le.mp c_11) hz48_4 (tA_rdc (lo := 0) (hi := 24) (tX_10 hT0) (rg_in (rg_c (v := 0) (lo := 0) (hi := 0) (by decide)) (by decide)) (show _ = 0 by decide) (by decide)) (by decide)) (by decide)) C_15 (z48_4 + 1) z48_2 _ _ ls rfl (rg_w (rg_add (lo := 1) (hi := 24) (rn_ltu (u' := 23) (Int32.not_le.mp c_11) hz48_4 (tA_rdc (lo := 0) (hi := 24) (tX_10 hT0) (rg_in (rg_c (v := 0) (lo := 0) (hi := 0) (by decide)) (by decide)) (show _ = 0 by decide) (by decide)) (by decide)) (rg_c (v := 1) (lo := 1) (hi := 1) (by decide)) (by decide)) (by decide)) hT hF (fr_tr hLF_48 f_17 (by decide) (by decide)) hP hD hS (lv_sub hl [0, 1, 2, 3, 4] rfl)
                  · refine lv_iconst (v := 1) hx hb dX5_spread_82 (by decide) ?_
                    refine lv_istore_n (lv' := [(2, .int 1), (4, .int z48_4), (3, .int z33_3), (0, .ref (a 3)), (1, .int x1)]) hx hb dX5_spread_83 rfl hl (by decide) rfl (fun ls hl => ?_)
                    refine lv_iinc (v := z48_4 + 1) (lv' := [(4, .int (z48_4 + 1)), (2, .int 1), (3, .int z33_3), (0, .ref (a 3)), (1, .int x1)]) hx hb dX5_spread_84 hl (k := 1) rfl (by rfl) (by decide) rfl (fun ls hl => ?_)
                    refine lv_goto (tgt := 48) hx hb dX5_spread_87 (by decide) ?_
                    exact ih_48 _ (hd_48 ▸ mu_up 24 (rn_ltu (u' := 23) (Int32.not_le.mp c_11) hz48_4 (tA_rdc (lo := 0) (hi := 24) (tX_10 hT0) (rg_in (rg_c (v := 0) (lo := 0) (hi := 0) (by decide)) (by decide)) (show _ = 0 by decide) (by decide)) (by decide)) (by decide)) C_15 (z48_4 + 1) 1 _ _ ls rfl (rg_w (rg_add (lo := 1) (hi := 24) (rn_ltu (u' := 23) (Int32.not_le.mp c_11) hz48_4 (tA_rdc (lo := 0) (hi := 24) (tX_10 hT0) (rg_in (rg_c (v := 0) (lo := 0) (hi := 0) (by decide)) (by decide)) (show _ = 0 by decide) (by decide)) (by decide)) (rg_c (v := 1) (lo := 1) (hi := 1) (by decide)) (by decide)) (by decide)) hT hF (fr_tr hLF_48 f_17 (by decide) (by decide)) hP hD hS (lv_sub hl [0, 1, 2, 3, 4] rfl)
            exact L_48 _ K33 0 0 _ _ ls rfl (rg_w (rg_c (v := 0) (lo := 0) (hi := 0) (by decide)) (by decide)) hT hF fr_rf hP hD hS (lv_sub hl [0, 1, 2, 3, 4] rfl)
      exact L_33 _ C_4 0 1 _ _ ls rfl (rg_w (rg_c (v := 0) (lo := 0) (hi := 0) (by decide)) (by decide)) hT hF fr_rf hP hD hS (lv_sub hl [0, 1, 2, 3] rfl)
    · refine lv_aload_n hx hb dX5_spread_8 rfl (lv_at hl 1 rfl) ?_
      refine va_get (D := D) (ci := 5) (v := .ref (a 27)) (C := RX5) (T := TX5) (N := 7) hx hb htg ig_5 hown hK hP 3 (oh_wg (by decide) (sX_3 hT)) rfl 5 (by decide) (htg _ q_174) (fun _ h9 => h9) rfl dX5_spread_9 ?_
      refine lv_iload_n hx hb dX5_spread_12 rfl (lv_at hl 0 rfl) ?_
      refine lv_ldc (v := 1000000000) hx hb hown (htg _ q_794) dX5_spread_13 ?_
      have n_20 : vp_in z2_2 16 := (rg_in (rn_ltu (u' := 15) (Int32.not_le.mp c_2) hz2_2 (rg_c (v := 16) (lo := 16) (hi := 16) (by decide)) (by decide)) (by decide))
      refine th_iast (T := TyX a E) (Rl := fr [(27, 28)] [] C) hx hb hK hP hD hS 27 (by decide) (sX_27 hT) n_20 (hT.up 27 (tA_upd (tX_27 hT) tA_any)) (fr_st hF (by decide) (by decide)) dX5_spread_15 (fun C_21 H locs e_22 hT hF hP hD hS => ?_)
      have t_23 := hT
      refine lv_iinc (v := z2_2 + 1) (lv' := [(2, .int (z2_2 + 1)), (0, .ref (a 3)), (1, .int x1)]) hx hb dX5_spread_16 hl (k := 0) rfl (by rfl) (by decide) rfl (fun ls hl => ?_)
      refine lv_goto (tgt := 2) hx hb dX5_spread_19 (by decide) ?_
      exact ih_2 _ (hd_2 ▸ mu_up 16 (rn_ltu (u' := 15) (Int32.not_le.mp c_2) hz2_2 (rg_c (v := 16) (lo := 16) (hi := 16) (by decide)) (by decide)) (by decide)) C_21 (z2_2 + 1) _ _ ls rfl (rg_w (rg_add (lo := 1) (hi := 16) (rn_ltu (u' := 15) (Int32.not_le.mp c_2) hz2_2 (rg_c (v := 16) (lo := 16) (hi := 16) (by decide)) (by decide)) (rg_c (v := 1) (lo := 1) (hi := 1) (by decide)) (by decide)) (by decide)) hT hF (fr_ste hLF_2 e_22 (by decide) (by decide)) hP hD hS (lv_sub hl [0, 1, 2] rfl)
  exact L_2 _ C 0 _ _ ls rfl (rg_w (rg_c (v := 0) (lo := 0) (hi := 0) (by decide)) (by decide)) hT hF fr_rf hP hD hS (lv_sub hl [0, 1, 2] rfl)

set_option maxHeartbeats 4000000 in
set_option maxRecDepth 100000 in
theorem c_X5_leastCoin (l : Launch) (D : va_G) (E : Nat → ClassId) (G : Nat → Nat) (sz : Nat) (a : Nat → Nat) (C : Nat → va_E) (hT : TyX a E C) (x1 : Int32) (x2 : Int32) (x3 : Int32) (x4 : Int32) (x5 : Int32) (hx1 : rg x1 0 4) (hx3 : rg x3 0 15) (hx4 : rg x4 0 15) : Met l yX5_leastCoin (oh_w yX5_leastCoin cX5_leastCoin 6 (some .int)) ({ frames := 4, cells := 0, slots := 0, locals := 100 }) (oh_Pm D E G [.ref (a 3), .int x1, .int x2, .int x3, .int x4, .int x5] (oh_W 35 a C) sz) (va_Qi (fun r (u : Nat → va_E) => TyX a E u ∧ fr [(9, 10), (24, 28)] [] C u ∧ True) (oh_B D (va_A (oh_W 35 a C) sz) (fun u => oh_W 35 a u)) (va_A (oh_W 35 a C) sz)) 0 0 (va_A (oh_W 35 a C) sz) := by
  refine Met.ofW (cc := cX5_leastCoin) (maxL := 6) (ret := (some .int)) (by decide) rfl ?_
  intro p e s m args below meth c s₁ B hml hv
  obtain ⟨rfl, hsz, hP, hK, hD0, hG⟩ := hv
  have hx := B.exec
  have hb := B.bytes
  have hr := B.returns
  have hts := atoms_spec (ws := (oh_w yX5_leastCoin cX5_leastCoin 6 (some .int))) B.pre
  have htg : ∀ w ∈ oh_t, w.before _ s = true := fun w h => hts w (List.mem_cons_of_mem _ h)
  have hown : s.vm.findClass RX5 = some m.cls := findClass_of_methodNamed B.named
  have hlocks := B.notSynchronized
  have hT0 := hT
  subst hsz
  have hD := hD0.self (sz := s.heap.size)
  generalize hAe : va_A (oh_W 35 a C) s.heap.size = A at hD hG ⊢
  have hA : ∀ q : Nat, s.heap.size ≤ q → A q := fun q h => by rw [← hAe]; exact Or.inr h
  have hS : va_S A s.heap s.heap [] := va_S.rf
  have hF : fr [(9, 10), (24, 28)] [] C C := fr_rf
  have hl := lv_entry ([.ref (a 3), .int x1, .int x2, .int x3, .int x4, .int x5]) (n := 6) (Nat.le_of_ble_eq_true rfl)
  rw [lg_entry_eq]
  generalize (lg_sl ([.ref (a 3), .int x1, .int x2, .int x3, .int x4, .int x5]) ++ List.replicate (6 - (lg_sl ([.ref (a 3), .int x1, .int x2, .int x3, .int x4, .int x5])).length) Slot.unset).toArray = ls at hl ⊢
  have hl : lv_has ls 6 [(0, .ref (a 3)), (1, .int x1), (2, .int x2), (3, .int x3), (4, .int x4), (5, .int x5)] := hl
  refine oh_genQ (fun Q hQ => ?_)
  refine lv_aload_n hx hb dX5_leastCoin_0 rfl (lv_at hl 0 rfl) ?_
  refine lv_iload_n hx hb dX5_leastCoin_1 rfl (lv_at hl 1 rfl) ?_
  refine lv_iload_n hx hb dX5_leastCoin_2 rfl (lv_at hl 2 rfl) ?_
  refine tm_Vv (As := [.int x1, .int x2]) (rest := []) ⟨hx, hb, hml, hown, htg⟩ (c_X5_survey l D E G _ a C hT x1 x2 (rg_w hx1 (by decide))) (cwV 2 htg (oh_gV q_784 q_751 q_752 q_68 q_753) rfl rfl rfl pdVX5_survey ⟨Nat.le_of_ble_eq_true rfl, Nat.le_of_ble_eq_true rfl⟩) hK hP hD hG hS hA (va_recv hK hP (ci := 5) (q0 := 3) rfl (oh_wg (by decide) (sX_3 hT))) rfl hl.1 rfl (Nat.le_of_ble_eq_true rfl) dX5_leastCoin_3 ⟨Nat.le_of_ble_eq_true rfl, Nat.le_of_ble_eq_true rfl⟩ (fun C_2 H locs hq_3 hP hD hS => ?_)
  obtain ⟨hT, f_4, hq_3⟩ := hq_3
  have hF := fr_tr hF f_4 (by decide) (by decide)
  refine W.widen (k := 0) (n := 0) (Nat.le_refl _) (Nat.le_refl _) ?_
  have t_5 := hT
  refine lv_aload_n hx hb dX5_leastCoin_6 rfl (lv_at hl 0 rfl) ?_
  refine lv_iload hx hb dX5_leastCoin_7 (lv_at hl 5 rfl) ?_
  refine tm_Vv (As := [.int x5]) (rest := []) ⟨hx, hb, hml, hown, htg⟩ (c_X5_priceByCoin l D E G _ a C_2 hT x5) (cwV 1 htg (oh_gV q_785 q_787 q_18 q_68 q_788) rfl rfl rfl pdVX5_priceByCoin ⟨Nat.le_of_ble_eq_true rfl, Nat.le_of_ble_eq_true rfl⟩) hK hP hD hG hS hA (va_recv hK hP (ci := 5) (q0 := 3) rfl (oh_wg (by decide) (sX_3 hT))) rfl hl.1 rfl (Nat.le_of_ble_eq_true rfl) dX5_leastCoin_9 ⟨Nat.le_of_ble_eq_true rfl, Nat.le_of_ble_eq_true rfl⟩ (fun C_7 H locs hq_8 hP hD hS => ?_)
  obtain ⟨hT, f_9, hq_8⟩ := hq_8
  have hF := fr_tr hF f_9 (by decide) (by decide)
  refine W.widen (k := 0) (n := 0) (Nat.le_refl _) (Nat.le_refl _) ?_
  have t_10 := hT
  refine lv_aload_n hx hb dX5_leastCoin_12 rfl (lv_at hl 0 rfl) ?_
  refine lv_iload_n hx hb dX5_leastCoin_13 rfl (lv_at hl 3 rfl) ?_
  refine tm_Vv (As := [.int x3]) (rest := []) ⟨hx, hb, hml, hown, htg⟩ (c_X5_spread l D E G _ a C_7 hT x3 (rg_w hx3 (by decide))) (cwV 1 htg (oh_gV q_790 q_792 q_19 q_68 q_793) rfl rfl rfl pdVX5_spread ⟨Nat.le_of_ble_eq_true rfl, Nat.le_of_ble_eq_true rfl⟩) hK hP hD hG hS hA (va_recv hK hP (ci := 5) (q0 := 3) rfl (oh_wg (by decide) (sX_3 hT))) rfl hl.1 rfl (Nat.le_of_ble_eq_true rfl) dX5_leastCoin_14 ⟨Nat.le_of_ble_eq_true rfl, Nat.le_of_ble_eq_true rfl⟩ (fun C_12 H locs hq_13 hP hD hS => ?_)
  obtain ⟨hT, f_14, hq_13⟩ := hq_13
  have hF := fr_tr hF f_14 (by decide) (by decide)
  refine W.widen (k := 0) (n := 0) (Nat.le_refl _) (Nat.le_refl _) ?_
  have t_15 := hT
  refine lv_aload_n hx hb dX5_leastCoin_17 rfl (lv_at hl 0 rfl) ?_
  refine va_get (D := D) (ci := 5) (v := .ref (a 27)) (C := RX5) (T := TX5) (N := 7) hx hb htg ig_5 hown hK hP 3 (oh_wg (by decide) (sX_3 hT)) rfl 5 (by decide) (htg _ q_174) (fun _ h9 => h9) rfl dX5_leastCoin_18 ?_
  refine lv_iload hx hb dX5_leastCoin_21 (lv_at hl 4 rfl) ?_
  have n_16 : vp_in x4 16 := (rg_in hx4 (by decide))
  refine th_iald hx hb hK hP 27 (by decide) (sX_27 hT) n_16 dX5_leastCoin_23 ?_
  refine lv_ldc (v := 1000000000) hx hb hown (htg _ q_794) dX5_leastCoin_24 ?_
  refine lv_icmp_ne (tgt := 34) hx hb dX5_leastCoin_26 (by decide) (fun (c_17 : ¬ ((ga (C_12 27) (x4).toNatClampNeg) = 1000000000)) => ?_) (fun (c_17 : (ga (C_12 27) (x4).toNatClampNeg) = 1000000000) => ?_)
  · refine lv_aload_n hx hb dX5_leastCoin_34 rfl (lv_at hl 0 rfl) ?_
    refine va_get (D := D) (ci := 5) (v := .ref (a 27)) (C := RX5) (T := TX5) (N := 7) hx hb htg ig_5 hown hK hP 3 (oh_wg (by decide) (sX_3 hT)) rfl 5 (by decide) (htg _ q_174) (fun _ h9 => h9) rfl dX5_leastCoin_35 ?_
    refine lv_iload hx hb dX5_leastCoin_38 (lv_at hl 4 rfl) ?_
    have n_18 : vp_in x4 16 := (rg_in hx4 (by decide))
    refine th_iald hx hb hK hP 27 (by decide) (sX_27 hT) n_18 dX5_leastCoin_40 ?_
    refine lv_iload hx hb dX5_leastCoin_41 (lv_at hl 5 rfl) ?_
    refine lv_aload_n hx hb dX5_leastCoin_43 rfl (lv_at hl 0 rfl) ?_
    refine va_get (D := D) (ci := 5) (v := .ref (a 9)) (C := RX5) (T := TX5) (N := 7) hx hb htg ig_5 hown hK hP 3 (oh_wg (by decide) (sX_3 hT)) rfl 1 (by decide) (htg _ q_168) (fun _ h9 => h9) rfl dX5_leastCoin_44 ?_
    refine va_get (D := D) (ci := 1) (v := .int (gi (C_2 9) 4)) (C := RX1) (T := TX1) (N := 5) hx hb htg ig_1 hown hK hP 9 (oh_wg (by decide) (sX_9 hT)) rfl 4 (by decide) (htg _ q_153) (fun _ h9 => h9) (oh_fv (c := C_12 9) (j := 4) rfl (Eq.trans (congrArg (fun z => gi z 4) (f_14.1 9 rfl (by decide))) (congrArg (fun z => gi z 4) (f_9.1 9 rfl (by decide))))) dX5_leastCoin_47 ?_
    refine lv_imul hx hb dX5_leastCoin_50 ?_
    refine lv_iadd hx hb dX5_leastCoin_51 ?_
    rw [hQ]
    exact W.iret (v := (ga (C_12 27) (x4).toNatClampNeg) + (x5 * (gi (C_2 9) 4))) hx hb hr (fun t ht hW => ⟨⟨(ga (C_12 27) (x4).toNatClampNeg) + (x5 * (gi (C_2 9) 4)), C_12, rfl, ⟨hT, hF, trivial⟩, ⟨by rw [ht]; exact hP, hD⟩⟩, hS.F ht⟩) hS.2.2 dX5_leastCoin_52
  · refine lv_ldc (v := 1000000000) hx hb hown (htg _ q_794) dX5_leastCoin_29 ?_
    refine lv_goto (tgt := 52) hx hb dX5_leastCoin_31 (by decide) ?_
    rw [hQ]
    exact W.iret (v := 1000000000) hx hb hr (fun t ht hW => ⟨⟨1000000000, C_12, rfl, ⟨hT, hF, trivial⟩, ⟨by rw [ht]; exact hP, hD⟩⟩, hS.F ht⟩) hS.2.2 dX5_leastCoin_52

set_option maxHeartbeats 4000000 in
set_option maxRecDepth 100000 in
theorem c_X5_hasWay (l : Launch) (D : va_G) (E : Nat → ClassId) (G : Nat → Nat) (sz : Nat) (a : Nat → Nat) (C : Nat → va_E) (hT : TyX a E C) (x1 : Int32) (x2 : Int32) (x3 : Int32) (x4 : Int32) (hx1 : rg x1 0 4) (hx3 : rg x3 0 15) (hx4 : rg x4 0 15) : Met l yX5_hasWay (oh_w yX5_hasWay cX5_hasWay 5 (some .boolean)) ({ frames := 4, cells := 0, slots := 0, locals := 100 }) (oh_Pm D E G [.ref (a 3), .int x1, .int x2, .int x3, .int x4] (oh_W 35 a C) sz) (va_Qi (fun r (u : Nat → va_E) => TyX a E u ∧ fr [(9, 10), (24, 28)] [] C u ∧ (r = 0 ∨ r = 1)) (oh_B D (va_A (oh_W 35 a C) sz) (fun u => oh_W 35 a u)) (va_A (oh_W 35 a C) sz)) 0 0 (va_A (oh_W 35 a C) sz) := by
  refine Met.ofW (cc := cX5_hasWay) (maxL := 5) (ret := (some .boolean)) (by decide) rfl ?_
  intro p e s m args below meth c s₁ B hml hv
  obtain ⟨rfl, hsz, hP, hK, hD0, hG⟩ := hv
  have hx := B.exec
  have hb := B.bytes
  have hr := B.returns
  have hts := atoms_spec (ws := (oh_w yX5_hasWay cX5_hasWay 5 (some .boolean))) B.pre
  have htg : ∀ w ∈ oh_t, w.before _ s = true := fun w h => hts w (List.mem_cons_of_mem _ h)
  have hown : s.vm.findClass RX5 = some m.cls := findClass_of_methodNamed B.named
  have hlocks := B.notSynchronized
  have hT0 := hT
  subst hsz
  have hD := hD0.self (sz := s.heap.size)
  generalize hAe : va_A (oh_W 35 a C) s.heap.size = A at hD hG ⊢
  have hA : ∀ q : Nat, s.heap.size ≤ q → A q := fun q h => by rw [← hAe]; exact Or.inr h
  have hS : va_S A s.heap s.heap [] := va_S.rf
  have hF : fr [(9, 10), (24, 28)] [] C C := fr_rf
  have hl := lv_entry ([.ref (a 3), .int x1, .int x2, .int x3, .int x4]) (n := 5) (Nat.le_of_ble_eq_true rfl)
  rw [lg_entry_eq]
  generalize (lg_sl ([.ref (a 3), .int x1, .int x2, .int x3, .int x4]) ++ List.replicate (5 - (lg_sl ([.ref (a 3), .int x1, .int x2, .int x3, .int x4])).length) Slot.unset).toArray = ls at hl ⊢
  have hl : lv_has ls 5 [(0, .ref (a 3)), (1, .int x1), (2, .int x2), (3, .int x3), (4, .int x4)] := hl
  refine oh_genQ (fun Q hQ => ?_)
  refine lv_aload_n hx hb dX5_hasWay_0 rfl (lv_at hl 0 rfl) ?_
  refine lv_iload_n hx hb dX5_hasWay_1 rfl (lv_at hl 1 rfl) ?_
  refine lv_iload_n hx hb dX5_hasWay_2 rfl (lv_at hl 2 rfl) ?_
  refine tm_Vv (As := [.int x1, .int x2]) (rest := []) ⟨hx, hb, hml, hown, htg⟩ (c_X5_survey l D E G _ a C hT x1 x2 (rg_w hx1 (by decide))) (cwV 2 htg (oh_gV q_784 q_751 q_752 q_68 q_753) rfl rfl rfl pdVX5_survey ⟨Nat.le_of_ble_eq_true rfl, Nat.le_of_ble_eq_true rfl⟩) hK hP hD hG hS hA (va_recv hK hP (ci := 5) (q0 := 3) rfl (oh_wg (by decide) (sX_3 hT))) rfl hl.1 rfl (Nat.le_of_ble_eq_true rfl) dX5_hasWay_3 ⟨Nat.le_of_ble_eq_true rfl, Nat.le_of_ble_eq_true rfl⟩ (fun C_2 H locs hq_3 hP hD hS => ?_)
  obtain ⟨hT, f_4, hq_3⟩ := hq_3
  have hF := fr_tr hF f_4 (by decide) (by decide)
  refine W.widen (k := 0) (n := 0) (Nat.le_refl _) (Nat.le_refl _) ?_
  have t_5 := hT
  refine lv_aload_n hx hb dX5_hasWay_6 rfl (lv_at hl 0 rfl) ?_
  refine lv_iconst (v := 1) hx hb dX5_hasWay_7 (by decide) ?_
  refine tm_Vv (As := [.int 1]) (rest := []) ⟨hx, hb, hml, hown, htg⟩ (c_X5_priceByCoin l D E G _ a C_2 hT (1 : Int32)) (cwV 1 htg (oh_gV q_785 q_787 q_18 q_68 q_788) rfl rfl rfl pdVX5_priceByCoin ⟨Nat.le_of_ble_eq_true rfl, Nat.le_of_ble_eq_true rfl⟩) hK hP hD hG hS hA (va_recv hK hP (ci := 5) (q0 := 3) rfl (oh_wg (by decide) (sX_3 hT))) rfl hl.1 rfl (Nat.le_of_ble_eq_true rfl) dX5_hasWay_8 ⟨Nat.le_of_ble_eq_true rfl, Nat.le_of_ble_eq_true rfl⟩ (fun C_7 H locs hq_8 hP hD hS => ?_)
  obtain ⟨hT, f_9, hq_8⟩ := hq_8
  have hF := fr_tr hF f_9 (by decide) (by decide)
  refine W.widen (k := 0) (n := 0) (Nat.le_refl _) (Nat.le_refl _) ?_
  have t_10 := hT
  refine lv_aload_n hx hb dX5_hasWay_11 rfl (lv_at hl 0 rfl) ?_
  refine lv_iload_n hx hb dX5_hasWay_12 rfl (lv_at hl 3 rfl) ?_
  refine tm_Vv (As := [.int x3]) (rest := []) ⟨hx, hb, hml, hown, htg⟩ (c_X5_spread l D E G _ a C_7 hT x3 (rg_w hx3 (by decide))) (cwV 1 htg (oh_gV q_790 q_792 q_19 q_68 q_793) rfl rfl rfl pdVX5_spread ⟨Nat.le_of_ble_eq_true rfl, Nat.le_of_ble_eq_true rfl⟩) hK hP hD hG hS hA (va_recv hK hP (ci := 5) (q0 := 3) rfl (oh_wg (by decide) (sX_3 hT))) rfl hl.1 rfl (Nat.le_of_ble_eq_true rfl) dX5_hasWay_13 ⟨Nat.le_of_ble_eq_true rfl, Nat.le_of_ble_eq_true rfl⟩ (fun C_12 H locs hq_13 hP hD hS => ?_)
  obtain ⟨hT, f_14, hq_13⟩ := hq_13
  have hF := fr_tr hF f_14 (by decide) (by decide)
  refine W.widen (k := 0) (n := 0) (Nat.le_refl _) (Nat.le_refl _) ?_
  have t_15 := hT
  refine lv_aload_n hx hb dX5_hasWay_16 rfl (lv_at hl 0 rfl) ?_
  refine va_get (D := D) (ci := 5) (v := .ref (a 27)) (C := RX5) (T := TX5) (N := 7) hx hb htg ig_5 hown hK hP 3 (oh_wg (by decide) (sX_3 hT)) rfl 5 (by decide) (htg _ q_174) (fun _ h9 => h9) rfl dX5_hasWay_17 ?_
  refine lv_iload hx hb dX5_hasWay_20 (lv_at hl 4 rfl) ?_
  have n_16 : vp_in x4 16 := (rg_in hx4 (by decide))
  refine th_iald hx hb hK hP 27 (by decide) (sX_27 hT) n_16 dX5_hasWay_22 ?_
  refine lv_ldc (v := 1000000000) hx hb hown (htg _ q_794) dX5_hasWay_23 ?_
  refine lv_icmp_eq (tgt := 32) hx hb dX5_hasWay_25 (by decide) (fun (c_17 : (ga (C_12 27) (x4).toNatClampNeg) = 1000000000) => ?_) (fun (c_17 : ¬ ((ga (C_12 27) (x4).toNatClampNeg) = 1000000000)) => ?_)
  · refine lv_iconst (v := 0) hx hb dX5_hasWay_32 (by decide) ?_
    rw [hQ]
    exact W.zret (v := 0) (ty := .boolean) hx hb hr (by decide) (fun t ht hW => ⟨⟨0, C_12, rfl, ⟨hT, hF, (Or.inl rfl)⟩, ⟨by rw [ht]; exact hP, hD⟩⟩, hS.F ht⟩) hS.2.2 dX5_hasWay_33
  · refine lv_iconst (v := 1) hx hb dX5_hasWay_28 (by decide) ?_
    refine lv_goto (tgt := 33) hx hb dX5_hasWay_29 (by decide) ?_
    rw [hQ]
    exact W.zret (v := 1) (ty := .boolean) hx hb hr (by decide) (fun t ht hW => ⟨⟨1, C_12, rfl, ⟨hT, hF, (Or.inr rfl)⟩, ⟨by rw [ht]; exact hP, hD⟩⟩, hS.F ht⟩) hS.2.2 dX5_hasWay_33

set_option maxHeartbeats 4000000 in
set_option maxRecDepth 100000 in
theorem c_X5_otherEnd (l : Launch) (D : va_G) (E : Nat → ClassId) (G : Nat → Nat) (a : Nat → Nat) (C : Nat → va_E) (hT : TyX a E C) (x1 : Int32) (x2 : Int32) (hx1 : rg x1 0 23) : Met l yX5_otherEnd (oh_w yX5_otherEnd cX5_otherEnd 3 (some .int)) ({ frames := 1, cells := 0, slots := 0, locals := 22 }) (oh_Pp D E G [.ref (a 3), .int x1, .int x2] (oh_W 35 a C)) (vp_Si (fun r => rg r (-1) 15)) 0 0 (fun _ => False) := by
  refine Met.ofW (cc := cX5_otherEnd) (maxL := 3) (ret := (some .int)) (by decide) rfl ?_
  intro p e s m args below meth c s₁ B hml hv
  obtain ⟨rfl, hP, hK, hG⟩ := hv
  have hx := B.exec
  have hb := B.bytes
  have hr := B.returns
  have hts := atoms_spec (ws := (oh_w yX5_otherEnd cX5_otherEnd 3 (some .int))) B.pre
  have htg : ∀ w ∈ oh_t, w.before _ s = true := fun w h => hts w (List.mem_cons_of_mem _ h)
  have hown : s.vm.findClass RX5 = some m.cls := findClass_of_methodNamed B.named
  have hlocks := B.notSynchronized
  have hT0 := hT
  have hS : va_S (fun _ => False) s.heap s.heap [] := va_S.rf
  have hl := lv_entry ([.ref (a 3), .int x1, .int x2]) (n := 3) (Nat.le_of_ble_eq_true rfl)
  rw [lg_entry_eq]
  generalize (lg_sl ([.ref (a 3), .int x1, .int x2]) ++ List.replicate (3 - (lg_sl ([.ref (a 3), .int x1, .int x2])).length) Slot.unset).toArray = ls at hl ⊢
  have hl : lv_has ls 3 [(0, .ref (a 3)), (1, .int x1), (2, .int x2)] := hl
  refine oh_genQ (fun Q hQ => ?_)
  refine lv_aload_n hx hb dX5_otherEnd_0 rfl (lv_at hl 0 rfl) ?_
  refine va_get (D := D) (ci := 5) (v := .ref (a 1)) (C := RX5) (T := TX5) (N := 7) hx hb htg ig_5 hown hK hP 3 (oh_wg (by decide) (sX_3 hT)) rfl 0 (by decide) (htg _ q_167) (fun _ h9 => h9) rfl dX5_otherEnd_1 ?_
  refine lv_iload_n hx hb dX5_otherEnd_4 rfl (lv_at hl 1 rfl) ?_
  refine lv_iconst (v := 0) hx hb dX5_otherEnd_5 (by decide) ?_
  refine tq_V (As := [.int x1, .int 0]) (rest := []) (ws := (oh_W 35 a C)) ⟨hx, hb, hml, hown, htg⟩ (c_X0_ofRoad l D E G a C hT x1 (0 : Int32) (rg_w hx1 (by decide)) (rg_w (rg_c (v := 0) (lo := 0) (hi := 0) (by decide)) (by decide))) (cwV 2 htg (oh_gV q_755 q_480 q_481 q_67 q_482) rfl rfl rfl pdVX0_ofRoad ⟨Nat.le_of_ble_eq_true rfl, Nat.le_of_ble_eq_true rfl⟩) hK hP hG hS (va_recv hK hP (ci := 0) (q0 := 1) rfl (oh_wg (by decide) (sX_1 hT))) rfl hl.1 rfl (Nat.le_of_ble_eq_true rfl) dX5_otherEnd_6 ⟨Nat.le_of_ble_eq_true rfl, Nat.le_of_ble_eq_true rfl⟩ (fun r_1 hq_2 => ?_)
  subst hq_2
  refine lv_iload_n hx hb dX5_otherEnd_9 rfl (lv_at hl 2 rfl) ?_
  refine lv_icmp_ne (tgt := 23) hx hb dX5_otherEnd_10 (by decide) (fun (c_3 : ¬ ((ga (C 11) ((x1 * 7) + 0).toNatClampNeg) = x2)) => ?_) (fun (c_3 : (ga (C 11) ((x1 * 7) + 0).toNatClampNeg) = x2) => ?_)
  · refine lv_aload_n hx hb dX5_otherEnd_23 rfl (lv_at hl 0 rfl) ?_
    refine va_get (D := D) (ci := 5) (v := .ref (a 1)) (C := RX5) (T := TX5) (N := 7) hx hb htg ig_5 hown hK hP 3 (oh_wg (by decide) (sX_3 hT)) rfl 0 (by decide) (htg _ q_167) (fun _ h9 => h9) rfl dX5_otherEnd_24 ?_
    refine lv_iload_n hx hb dX5_otherEnd_27 rfl (lv_at hl 1 rfl) ?_
    refine lv_iconst (v := 1) hx hb dX5_otherEnd_28 (by decide) ?_
    refine tq_V (As := [.int x1, .int 1]) (rest := []) (ws := (oh_W 35 a C)) ⟨hx, hb, hml, hown, htg⟩ (c_X0_ofRoad l D E G a C hT x1 (1 : Int32) (rg_w hx1 (by decide)) (rg_w (rg_c (v := 1) (lo := 1) (hi := 1) (by decide)) (by decide))) (cwV 2 htg (oh_gV q_755 q_480 q_481 q_67 q_482) rfl rfl rfl pdVX0_ofRoad ⟨Nat.le_of_ble_eq_true rfl, Nat.le_of_ble_eq_true rfl⟩) hK hP hG hS (va_recv hK hP (ci := 0) (q0 := 1) rfl (oh_wg (by decide) (sX_1 hT))) rfl hl.1 rfl (Nat.le_of_ble_eq_true rfl) dX5_otherEnd_29 ⟨Nat.le_of_ble_eq_true rfl, Nat.le_of_ble_eq_true rfl⟩ (fun r_4 hq_5 => ?_)
    subst hq_5
    refine lv_iload_n hx hb dX5_otherEnd_32 rfl (lv_at hl 2 rfl) ?_
    refine lv_icmp_ne (tgt := 48) hx hb dX5_otherEnd_33 (by decide) (fun (c_6 : ¬ ((ga (C 11) ((x1 * 7) + 1).toNatClampNeg) = x2)) => ?_) (fun (c_6 : (ga (C 11) ((x1 * 7) + 1).toNatClampNeg) = x2) => ?_)
    · refine lv_iconst (v := (-1)) hx hb dX5_otherEnd_48 (by decide) ?_
      rw [hQ]
      exact W.iret (v := (-1)) hx hb hr (fun t ht hW => ⟨(-1), rfl, (rg_w (rg_c (v := (-1)) (lo := (-1)) (hi := (-1)) (by decide)) (by decide)), ht⟩) (fun q h => by cases h) dX5_otherEnd_49
    · refine lv_aload_n hx hb dX5_otherEnd_36 rfl (lv_at hl 0 rfl) ?_
      refine va_get (D := D) (ci := 5) (v := .ref (a 1)) (C := RX5) (T := TX5) (N := 7) hx hb htg ig_5 hown hK hP 3 (oh_wg (by decide) (sX_3 hT)) rfl 0 (by decide) (htg _ q_167) (fun _ h9 => h9) rfl dX5_otherEnd_37 ?_
      refine lv_iload_n hx hb dX5_otherEnd_40 rfl (lv_at hl 1 rfl) ?_
      refine lv_iconst (v := 0) hx hb dX5_otherEnd_41 (by decide) ?_
      refine tq_V (As := [.int x1, .int 0]) (rest := []) (ws := (oh_W 35 a C)) ⟨hx, hb, hml, hown, htg⟩ (c_X0_ofRoad l D E G a C hT x1 (0 : Int32) (rg_w hx1 (by decide)) (rg_w (rg_c (v := 0) (lo := 0) (hi := 0) (by decide)) (by decide))) (cwV 2 htg (oh_gV q_755 q_480 q_481 q_67 q_482) rfl rfl rfl pdVX0_ofRoad ⟨Nat.le_of_ble_eq_true rfl, Nat.le_of_ble_eq_true rfl⟩) hK hP hG hS (va_recv hK hP (ci := 0) (q0 := 1) rfl (oh_wg (by decide) (sX_1 hT))) rfl hl.1 rfl (Nat.le_of_ble_eq_true rfl) dX5_otherEnd_42 ⟨Nat.le_of_ble_eq_true rfl, Nat.le_of_ble_eq_true rfl⟩ (fun r_7 hq_8 => ?_)
      subst hq_8
      refine lv_goto (tgt := 49) hx hb dX5_otherEnd_45 (by decide) ?_
      rw [hQ]
      exact W.iret (v := ga (C 11) ((x1 * 7) + 0).toNatClampNeg) hx hb hr (fun t ht hW => ⟨ga (C 11) ((x1 * 7) + 0).toNatClampNeg, rfl, (rg_w (tA_rdc (lo := 0) (hi := 15) (tX_11 hT0) (rg_in (rg_add (lo := 0) (hi := 161) (rg_mul (lo := 0) (hi := 161) hx1 (rg_c (v := 7) (lo := 7) (hi := 7) (by decide)) (by decide)) (rg_c (v := 0) (lo := 0) (hi := 0) (by decide)) (by decide)) (by decide)) (oh_col (W := 7) hx1 rfl (rg_c (v := 0) (lo := 0) (hi := 0) (by decide)) (by decide)) (by decide)) (by decide)), ht⟩) (fun q h => by cases h) dX5_otherEnd_49
  · refine lv_aload_n hx hb dX5_otherEnd_13 rfl (lv_at hl 0 rfl) ?_
    refine va_get (D := D) (ci := 5) (v := .ref (a 1)) (C := RX5) (T := TX5) (N := 7) hx hb htg ig_5 hown hK hP 3 (oh_wg (by decide) (sX_3 hT)) rfl 0 (by decide) (htg _ q_167) (fun _ h9 => h9) rfl dX5_otherEnd_14 ?_
    refine lv_iload_n hx hb dX5_otherEnd_17 rfl (lv_at hl 1 rfl) ?_
    refine lv_iconst (v := 1) hx hb dX5_otherEnd_18 (by decide) ?_
    refine tq_V (As := [.int x1, .int 1]) (rest := []) (ws := (oh_W 35 a C)) ⟨hx, hb, hml, hown, htg⟩ (c_X0_ofRoad l D E G a C hT x1 (1 : Int32) (rg_w hx1 (by decide)) (rg_w (rg_c (v := 1) (lo := 1) (hi := 1) (by decide)) (by decide))) (cwV 2 htg (oh_gV q_755 q_480 q_481 q_67 q_482) rfl rfl rfl pdVX0_ofRoad ⟨Nat.le_of_ble_eq_true rfl, Nat.le_of_ble_eq_true rfl⟩) hK hP hG hS (va_recv hK hP (ci := 0) (q0 := 1) rfl (oh_wg (by decide) (sX_1 hT))) rfl hl.1 rfl (Nat.le_of_ble_eq_true rfl) dX5_otherEnd_19 ⟨Nat.le_of_ble_eq_true rfl, Nat.le_of_ble_eq_true rfl⟩ (fun r_9 hq_10 => ?_)
    subst hq_10
    rw [hQ]
    exact W.iret (v := ga (C 11) ((x1 * 7) + 1).toNatClampNeg) hx hb hr (fun t ht hW => ⟨ga (C 11) ((x1 * 7) + 1).toNatClampNeg, rfl, (rg_w (tA_rdc (lo := 0) (hi := 15) (tX_11 hT0) (rg_in (rg_add (lo := 1) (hi := 162) (rg_mul (lo := 0) (hi := 161) hx1 (rg_c (v := 7) (lo := 7) (hi := 7) (by decide)) (by decide)) (rg_c (v := 1) (lo := 1) (hi := 1) (by decide)) (by decide)) (by decide)) (oh_col (W := 7) hx1 rfl (rg_c (v := 1) (lo := 1) (hi := 1) (by decide)) (by decide)) (by decide)) (by decide)), ht⟩) (fun q h => by cases h) dX5_otherEnd_22

set_option maxHeartbeats 4000000 in
set_option maxRecDepth 100000 in
theorem c_X5_setOut (l : Launch) (D : va_G) (E : Nat → ClassId) (G : Nat → Nat) (sz : Nat) (a : Nat → Nat) (C : Nat → va_E) (hT : TyX a E C) (x1 : Int32) (hx1 : rg x1 0 15) : Met l yX5_setOut (oh_w yX5_setOut cX5_setOut 2 none) ({ frames := 0, cells := 0, slots := 0, locals := 0 }) (oh_Pm D E G [.ref (a 3), .int x1] (oh_W 35 a C) sz) (va_Qv (fun (u : Nat → va_E) => TyX a E u ∧ fr [(28, 29)] [] C u ∧ True) (oh_B D (va_A (oh_W 35 a C) sz) (fun u => oh_W 35 a u)) (va_A (oh_W 35 a C) sz)) 0 0 (va_A (oh_W 35 a C) sz) := by
  refine Met.ofW (cc := cX5_setOut) (maxL := 2) (ret := none) (by decide) rfl ?_
  intro p e s m args below meth c s₁ B hml hv
  obtain ⟨rfl, hsz, hP, hK, hD0, hG⟩ := hv
  have hx := B.exec
  have hb := B.bytes
  have hr := B.returns
  have hts := atoms_spec (ws := (oh_w yX5_setOut cX5_setOut 2 none)) B.pre
  have htg : ∀ w ∈ oh_t, w.before _ s = true := fun w h => hts w (List.mem_cons_of_mem _ h)
  have hown : s.vm.findClass RX5 = some m.cls := findClass_of_methodNamed B.named
  have hlocks := B.notSynchronized
  have hT0 := hT
  subst hsz
  have hD := hD0.self (sz := s.heap.size)
  generalize hAe : va_A (oh_W 35 a C) s.heap.size = A at hD hG ⊢
  have hA : ∀ q : Nat, s.heap.size ≤ q → A q := fun q h => by rw [← hAe]; exact Or.inr h
  have hS : va_S A s.heap s.heap [] := va_S.rf
  have hF : fr [(28, 29)] [] C C := fr_rf
  have hl := lv_entry ([.ref (a 3), .int x1]) (n := 2) (Nat.le_of_ble_eq_true rfl)
  rw [lg_entry_eq]
  generalize (lg_sl ([.ref (a 3), .int x1]) ++ List.replicate (2 - (lg_sl ([.ref (a 3), .int x1])).length) Slot.unset).toArray = ls at hl ⊢
  have hl : lv_has ls 2 [(0, .ref (a 3)), (1, .int x1)] := hl
  refine oh_genQ (fun Q hQ => ?_)
  refine lv_aload_n hx hb dX5_setOut_0 rfl (lv_at hl 0 rfl) ?_
  refine va_get (D := D) (ci := 5) (v := .ref (a 28)) (C := RX5) (T := TX5) (N := 7) hx hb htg ig_5 hown hK hP 3 (oh_wg (by decide) (sX_3 hT)) rfl 6 (by decide) (htg _ q_175) (fun _ h9 => h9) rfl dX5_setOut_1 ?_
  refine lv_iconst (v := 0) hx hb dX5_setOut_4 (by decide) ?_
  refine lv_iconst (v := 0) hx hb dX5_setOut_5 (by decide) ?_
  refine th_iast (T := TyX a E) (Rl := fr [(28, 29)] [] C) hx hb hK hP hD hS 28 (by decide) (sX_28 hT) (rg_in (rg_c (v := 0) (lo := 0) (hi := 0) (by decide)) (by decide)) (hT.up 28 (tA_upd (tX_28 hT) (tA_stc (show _ = 0 by decide) (rg_c (v := 0) (lo := 0) (hi := 0) (by decide)) (by decide)))) (fr_st hF (by decide) (by decide)) dX5_setOut_6 (fun C_1 H locs e_2 hT hF hP hD hS => ?_)
  have t_3 := hT
  refine lv_aload_n hx hb dX5_setOut_7 rfl (lv_at hl 0 rfl) ?_
  refine va_get (D := D) (ci := 5) (v := .ref (a 28)) (C := RX5) (T := TX5) (N := 7) hx hb htg ig_5 hown hK hP 3 (oh_wg (by decide) (sX_3 hT)) rfl 6 (by decide) (htg _ q_175) (fun _ h9 => h9) rfl dX5_setOut_8 ?_
  refine lv_iconst (v := 1) hx hb dX5_setOut_11 (by decide) ?_
  refine lv_iconst (v := 0) hx hb dX5_setOut_12 (by decide) ?_
  refine th_iast (T := TyX a E) (Rl := fr [(28, 29)] [] C) hx hb hK hP hD hS 28 (by decide) (sX_28 hT) (rg_in (rg_c (v := 1) (lo := 1) (hi := 1) (by decide)) (by decide)) (hT.up 28 (tA_upd (tX_28 hT) (tA_stc (show _ = 1 by decide) (rg_c (v := 0) (lo := 0) (hi := 0) (by decide)) (by decide)))) (fr_st hF (by decide) (by decide)) dX5_setOut_13 (fun C_4 H locs e_5 hT hF hP hD hS => ?_)
  have t_6 := hT
  refine lv_aload_n hx hb dX5_setOut_14 rfl (lv_at hl 0 rfl) ?_
  refine va_get (D := D) (ci := 5) (v := .ref (a 28)) (C := RX5) (T := TX5) (N := 7) hx hb htg ig_5 hown hK hP 3 (oh_wg (by decide) (sX_3 hT)) rfl 6 (by decide) (htg _ q_175) (fun _ h9 => h9) rfl dX5_setOut_15 ?_
  refine lv_iconst (v := 2) hx hb dX5_setOut_18 (by decide) ?_
  refine lv_iconst (v := 0) hx hb dX5_setOut_19 (by decide) ?_
  refine th_iast (T := TyX a E) (Rl := fr [(28, 29)] [] C) hx hb hK hP hD hS 28 (by decide) (sX_28 hT) (rg_in (rg_c (v := 2) (lo := 2) (hi := 2) (by decide)) (by decide)) (hT.up 28 (tA_upd (tX_28 hT) (tA_stc (show _ = 2 by decide) (rg_c (v := 0) (lo := 0) (hi := 0) (by decide)) (by decide)))) (fr_st hF (by decide) (by decide)) dX5_setOut_20 (fun C_7 H locs e_8 hT hF hP hD hS => ?_)
  have t_9 := hT
  refine lv_aload_n hx hb dX5_setOut_21 rfl (lv_at hl 0 rfl) ?_
  refine va_get (D := D) (ci := 5) (v := .ref (a 28)) (C := RX5) (T := TX5) (N := 7) hx hb htg ig_5 hown hK hP 3 (oh_wg (by decide) (sX_3 hT)) rfl 6 (by decide) (htg _ q_175) (fun _ h9 => h9) rfl dX5_setOut_22 ?_
  refine lv_iconst (v := 3) hx hb dX5_setOut_25 (by decide) ?_
  refine lv_iload_n hx hb dX5_setOut_26 rfl (lv_at hl 1 rfl) ?_
  refine th_iast (T := TyX a E) (Rl := fr [(28, 29)] [] C) hx hb hK hP hD hS 28 (by decide) (sX_28 hT) (rg_in (rg_c (v := 3) (lo := 3) (hi := 3) (by decide)) (by decide)) (hT.up 28 (tA_upd (tX_28 hT) (tA_stc (show _ = 3 by decide) hx1 (by decide)))) (fr_st hF (by decide) (by decide)) dX5_setOut_27 (fun C_10 H locs e_11 hT hF hP hD hS => ?_)
  have t_12 := hT
  rw [hQ]
  exact W.vret hx hb hr (fun t ht hW => ⟨⟨C_10, rfl, ⟨hT, hF, trivial⟩, ⟨by rw [ht]; exact hP, hD⟩⟩, hS.F ht⟩) hS.2.2 dX5_setOut_28

set_option maxHeartbeats 4000000 in
set_option maxRecDepth 100000 in
theorem c_X5_walk (l : Launch) (D : va_G) (E : Nat → ClassId) (G : Nat → Nat) (sz : Nat) (a : Nat → Nat) (C : Nat → va_E) (hT : TyX a E C) (x1 : Int64) : Met l yX5_walk (oh_w yX5_walk cX5_walk 5 (some .boolean)) ({ frames := 3, cells := 0, slots := 0, locals := 65 }) (oh_Pm D E G [.ref (a 3), .long x1] (oh_W 35 a C) sz) (va_Qi (fun r (u : Nat → va_E) => TyX a E u ∧ fr [(28, 29)] [] C u ∧ (r = 0 ∨ r = 1)) (oh_B D (va_A (oh_W 35 a C) sz) (fun u => oh_W 35 a u)) (va_A (oh_W 35 a C) sz)) 0 0 (va_A (oh_W 35 a C) sz) := by
  refine Met.ofW (cc := cX5_walk) (maxL := 5) (ret := (some .boolean)) (by decide) rfl ?_
  intro p e s m args below meth c s₁ B hml hv
  obtain ⟨rfl, hsz, hP, hK, hD0, hG⟩ := hv
  have hx := B.exec
  have hb := B.bytes
  have hr := B.returns
  have hts := atoms_spec (ws := (oh_w yX5_walk cX5_walk 5 (some .boolean))) B.pre
  have htg : ∀ w ∈ oh_t, w.before _ s = true := fun w h => hts w (List.mem_cons_of_mem _ h)
  have hown : s.vm.findClass RX5 = some m.cls := findClass_of_methodNamed B.named
  have hlocks := B.notSynchronized
  have hT0 := hT
  subst hsz
  have hD := hD0.self (sz := s.heap.size)
  generalize hAe : va_A (oh_W 35 a C) s.heap.size = A at hD hG ⊢
  have hA : ∀ q : Nat, s.heap.size ≤ q → A q := fun q h => by rw [← hAe]; exact Or.inr h
  have hS : va_S A s.heap s.heap [] := va_S.rf
  have hF : fr [(28, 29)] [] C C := fr_rf
  have hl := lv_entry ([.ref (a 3), .long x1]) (n := 5) (Nat.le_of_ble_eq_true rfl)
  rw [lg_entry_eq]
  generalize (lg_sl ([.ref (a 3), .long x1]) ++ List.replicate (5 - (lg_sl ([.ref (a 3), .long x1])).length) Slot.unset).toArray = ls at hl ⊢
  have hl : lv_has ls 5 [(0, .ref (a 3)), (1, .long x1)] := hl
  refine oh_genQ (fun Q hQ => ?_)
  refine lv_lload_n hx hb dX5_walk_0 rfl (lv_at hl 1 rfl) ?_
  refine lv_lconst (v := 0) hx hb dX5_walk_1 (by decide) ?_
  refine W.lcmp hx hb dX5_walk_2 ?_
  refine lv_if_lt (tgt := 21) hx hb dX5_walk_3 (by decide) (fun (c_1 : (lg_cmp x1 0) < 0) => ?_) (fun (c_1 : ¬ ((lg_cmp x1 0) < 0)) => ?_)
  · refine lv_iconst (v := 0) hx hb dX5_walk_21 (by decide) ?_
    rw [hQ]
    exact W.zret (v := 0) (ty := .boolean) hx hb hr (by decide) (fun t ht hW => ⟨⟨0, C, rfl, ⟨hT, hF, (Or.inl rfl)⟩, ⟨by rw [ht]; exact hP, hD⟩⟩, hS.F ht⟩) hS.2.2 dX5_walk_22
  · refine lv_lload_n hx hb dX5_walk_6 rfl (lv_at hl 1 rfl) ?_
    refine lv_aload_n hx hb dX5_walk_7 rfl (lv_at hl 0 rfl) ?_
    refine va_get (D := D) (ci := 5) (v := .ref (a 1)) (C := RX5) (T := TX5) (N := 7) hx hb htg ig_5 hown hK hP 3 (oh_wg (by decide) (sX_3 hT)) rfl 0 (by decide) (htg _ q_167) (fun _ h9 => h9) rfl dX5_walk_8 ?_
    refine va_get (D := D) (ci := 0) (v := .ref (a 10)) (C := RX0) (T := TX0) (N := 8) hx hb htg ig_0 hown hK hP 1 (oh_wg (by decide) (sX_1 hT)) rfl 0 (by decide) (htg _ q_99) (fun _ h9 => h9) rfl dX5_walk_11 ?_
    refine lv_iconst (v := 0) hx hb dX5_walk_14 (by decide) ?_
    refine th_iald hx hb hK hP 10 (by decide) (sX_10 hT) (rg_in (rg_c (v := 0) (lo := 0) (hi := 0) (by decide)) (by decide)) dX5_walk_15 ?_
    refine lv_i2l (v := Int32.toInt64 (ga (C 10) ((0 : Int32)).toNatClampNeg)) hx hb dX5_walk_16 (by rfl) ?_
    refine W.lcmp hx hb dX5_walk_17 ?_
    refine lv_if_lt (tgt := 23) hx hb dX5_walk_18 (by decide) (fun (c_2 : (lg_cmp x1 (Int32.toInt64 (ga (C 10) ((0 : Int32)).toNatClampNeg))) < 0) => ?_) (fun (c_2 : ¬ ((lg_cmp x1 (Int32.toInt64 (ga (C 10) ((0 : Int32)).toNatClampNeg))) < 0)) => ?_)
    · refine lv_lload_n hx hb dX5_walk_23 rfl (lv_at hl 1 rfl) ?_
      refine lv_l2i (v := Int64.toInt32 x1) hx hb dX5_walk_24 rfl ?_
      refine lv_istore_n (lv' := [(3, .int (Int64.toInt32 x1)), (0, .ref (a 3)), (1, .long x1)]) hx hb dX5_walk_25 rfl hl (by decide) rfl (fun ls hl => ?_)
      refine lv_aload_n hx hb dX5_walk_26 rfl (lv_at hl 1 rfl) ?_
      refine lv_iload_n hx hb dX5_walk_27 rfl (lv_at hl 0 rfl) ?_
      refine lv_aload_n hx hb dX5_walk_28 rfl (lv_at hl 1 rfl) ?_
      refine va_get (D := D) (ci := 5) (v := .ref (a 28)) (C := RX5) (T := TX5) (N := 7) hx hb htg ig_5 hown hK hP 3 (oh_wg (by decide) (sX_3 hT)) rfl 6 (by decide) (htg _ q_175) (fun _ h9 => h9) rfl dX5_walk_29 ?_
      refine lv_iconst (v := 3) hx hb dX5_walk_32 (by decide) ?_
      refine th_iald hx hb hK hP 28 (by decide) (sX_28 hT) (rg_in (rg_c (v := 3) (lo := 3) (hi := 3) (by decide)) (by decide)) dX5_walk_33 ?_
      refine tq_V (As := [.int (Int64.toInt32 x1), .int (ga (C 28) ((3 : Int32)).toNatClampNeg)]) (rest := []) (ws := (oh_W 35 a C)) ⟨hx, hb, hml, hown, htg⟩ (c_X5_otherEnd l D E G a C hT (Int64.toInt32 x1) (ga (C 28) ((3 : Int32)).toNatClampNeg) (rg_w (rg_l2i (rnL_ltu (u' := 23) (oh_lc_lt c_2) (rnL_lel (oh_lc_nlt c_1) (rgL_c (v := 0) (lo := 0) (hi := 0) (by decide)) (rgL_any _)) (rgL_i (tA_rdc (lo := 0) (hi := 24) (tX_10 hT0) (rg_in (rg_c (v := 0) (lo := 0) (hi := 0) (by decide)) (by decide)) (show _ = 0 by decide) (by decide))) (by decide)) (by decide)) (by decide))) (cwV 2 htg (oh_gV q_846 q_848 q_25 q_68 q_849) rfl rfl rfl pdVX5_otherEnd ⟨Nat.le_of_ble_eq_true rfl, Nat.le_of_ble_eq_true rfl⟩) hK hP hG hS (va_recv hK hP (ci := 5) (q0 := 3) rfl (oh_wg (by decide) (sX_3 hT))) rfl hl.1 rfl (Nat.le_of_ble_eq_true rfl) dX5_walk_34 ⟨Nat.le_of_ble_eq_true rfl, Nat.le_of_ble_eq_true rfl⟩ (fun r_3 hq_4 => ?_)
      refine lv_istore (lv' := [(4, .int r_3), (3, .int (Int64.toInt32 x1)), (0, .ref (a 3)), (1, .long x1)]) hx hb dX5_walk_37 hl (by decide) rfl (fun ls hl => ?_)
      refine lv_aload_n hx hb dX5_walk_39 rfl (lv_at hl 2 rfl) ?_
      refine va_get (D := D) (ci := 5) (v := .ref (a 24)) (C := RX5) (T := TX5) (N := 7) hx hb htg ig_5 hown hK hP 3 (oh_wg (by decide) (sX_3 hT)) rfl 2 (by decide) (htg _ q_170) (fun _ h9 => h9) rfl dX5_walk_40 ?_
      refine lv_iload_n hx hb dX5_walk_43 rfl (lv_at hl 1 rfl) ?_
      have n_5 : vp_in (Int64.toInt32 x1) 24 := (rg_in (rg_l2i (rnL_ltu (u' := 23) (oh_lc_lt c_2) (rnL_lel (oh_lc_nlt c_1) (rgL_c (v := 0) (lo := 0) (hi := 0) (by decide)) (rgL_any _)) (rgL_i (tA_rdc (lo := 0) (hi := 24) (tX_10 hT0) (rg_in (rg_c (v := 0) (lo := 0) (hi := 0) (by decide)) (by decide)) (show _ = 0 by decide) (by decide))) (by decide)) (by decide)) (by decide))
      refine th_iald hx hb hK hP 24 (by decide) (sX_24 hT) n_5 dX5_walk_44 ?_
      refine lv_iconst (v := (-1)) hx hb dX5_walk_45 (by decide) ?_
      refine lv_icmp_eq (tgt := 55) hx hb dX5_walk_46 (by decide) (fun (c_6 : (ga (C 24) (Int64.toInt32 x1).toNatClampNeg) = (-1)) => ?_) (fun (c_6 : ¬ ((ga (C 24) (Int64.toInt32 x1).toNatClampNeg) = (-1))) => ?_)
      · refine lv_iconst (v := 0) hx hb dX5_walk_55 (by decide) ?_
        rw [hQ]
        exact W.zret (v := 0) (ty := .boolean) hx hb hr (by decide) (fun t ht hW => ⟨⟨0, C, rfl, ⟨hT, hF, (Or.inl rfl)⟩, ⟨by rw [ht]; exact hP, hD⟩⟩, hS.F ht⟩) hS.2.2 dX5_walk_56
      · refine lv_iload hx hb dX5_walk_49 (lv_at hl 0 rfl) ?_
        refine lv_iconst (v := (-1)) hx hb dX5_walk_51 (by decide) ?_
        refine lv_icmp_ne (tgt := 57) hx hb dX5_walk_52 (by decide) (fun (c_7 : ¬ (r_3 = (-1))) => ?_) (fun (c_7 : r_3 = (-1)) => ?_)
        · refine lv_aload_n hx hb dX5_walk_57 rfl (lv_at hl 2 rfl) ?_
          refine va_get (D := D) (ci := 5) (v := .ref (a 28)) (C := RX5) (T := TX5) (N := 7) hx hb htg ig_5 hown hK hP 3 (oh_wg (by decide) (sX_3 hT)) rfl 6 (by decide) (htg _ q_175) (fun _ h9 => h9) rfl dX5_walk_58 ?_
          refine lv_iconst (v := 0) hx hb dX5_walk_61 (by decide) ?_
          refine lv_dup2_11 hx hb dX5_walk_62 rfl rfl ?_
          refine th_iald hx hb hK hP 28 (by decide) (sX_28 hT) (rg_in (rg_c (v := 0) (lo := 0) (hi := 0) (by decide)) (by decide)) dX5_walk_63 ?_
          refine lv_aload_n hx hb dX5_walk_64 rfl (lv_at hl 2 rfl) ?_
          refine lv_iload_n hx hb dX5_walk_65 rfl (lv_at hl 1 rfl) ?_
          refine lv_iconst (v := 1) hx hb dX5_walk_66 (by decide) ?_
          refine tq_V (As := [.int (Int64.toInt32 x1), .int 1]) (rest := [.int (ga (C 28) ((0 : Int32)).toNatClampNeg), .int 0, .ref (a 28)]) (ws := (oh_W 35 a C)) ⟨hx, hb, hml, hown, htg⟩ (c_X5_coinOf l D E G a C hT (Int64.toInt32 x1) (1 : Int32) (rg_w (rg_l2i (rnL_ltu (u' := 23) (oh_lc_lt c_2) (rnL_lel (oh_lc_nlt c_1) (rgL_c (v := 0) (lo := 0) (hi := 0) (by decide)) (rgL_any _)) (rgL_i (tA_rdc (lo := 0) (hi := 24) (tX_10 hT0) (rg_in (rg_c (v := 0) (lo := 0) (hi := 0) (by decide)) (by decide)) (show _ = 0 by decide) (by decide))) (by decide)) (by decide)) (by decide))) (cwV 2 htg (oh_gV q_789 q_763 q_764 q_68 q_765) rfl rfl rfl pdVX5_coinOf ⟨Nat.le_of_ble_eq_true rfl, Nat.le_of_ble_eq_true rfl⟩) hK hP hG hS (va_recv hK hP (ci := 5) (q0 := 3) rfl (oh_wg (by decide) (sX_3 hT))) rfl hl.1 rfl (Nat.le_of_ble_eq_true rfl) dX5_walk_67 ⟨Nat.le_of_ble_eq_true rfl, Nat.le_of_ble_eq_true rfl⟩ (fun r_8 hq_9 => ?_)
          refine lv_iadd hx hb dX5_walk_70 ?_
          refine th_iast (T := TyX a E) (Rl := fr [(28, 29)] [] C) hx hb hK hP hD hS 28 (by decide) (sX_28 hT) (rg_in (rg_c (v := 0) (lo := 0) (hi := 0) (by decide)) (by decide)) (hT.up 28 (tA_upd (tX_28 hT) (tA_stc (show _ = 0 by decide) (rg_any _) (by decide)))) (fr_st hF (by decide) (by decide)) dX5_walk_71 (fun C_10 H locs e_11 hT hF hP hD hS => ?_)
          have t_12 := hT
          refine lv_aload_n hx hb dX5_walk_72 rfl (lv_at hl 2 rfl) ?_
          refine va_get (D := D) (ci := 5) (v := .ref (a 28)) (C := RX5) (T := TX5) (N := 7) hx hb htg ig_5 hown hK hP 3 (oh_wg (by decide) (sX_3 hT)) rfl 6 (by decide) (htg _ q_175) (fun _ h9 => h9) rfl dX5_walk_73 ?_
          refine lv_iconst (v := 1) hx hb dX5_walk_76 (by decide) ?_
          refine lv_dup2_11 hx hb dX5_walk_77 rfl rfl ?_
          refine th_iald hx hb hK hP 28 (by decide) (sX_28 hT) (rg_in (rg_c (v := 1) (lo := 1) (hi := 1) (by decide)) (by decide)) dX5_walk_78 ?_
          refine lv_aload_n hx hb dX5_walk_79 rfl (lv_at hl 2 rfl) ?_
          refine lv_iload_n hx hb dX5_walk_80 rfl (lv_at hl 1 rfl) ?_
          refine tq_V (As := [.int (Int64.toInt32 x1)]) (rest := [.int (ga (C_10 28) ((1 : Int32)).toNatClampNeg), .int 1, .ref (a 28)]) (ws := (oh_W 35 a C_10)) ⟨hx, hb, hml, hown, htg⟩ (c_X5_daysOf l D E G a C_10 hT (Int64.toInt32 x1) (rg_w (rg_l2i (rnL_ltu (u' := 23) (oh_lc_lt c_2) (rnL_lel (oh_lc_nlt c_1) (rgL_c (v := 0) (lo := 0) (hi := 0) (by decide)) (rgL_any _)) (rgL_i (tA_rdc (lo := 0) (hi := 24) (tX_10 hT0) (rg_in (rg_c (v := 0) (lo := 0) (hi := 0) (by decide)) (by decide)) (show _ = 0 by decide) (by decide))) (by decide)) (by decide)) (by decide))) (cwV 1 htg (oh_gV q_812 q_768 q_769 q_68 q_770) rfl rfl rfl pdVX5_daysOf ⟨Nat.le_of_ble_eq_true rfl, Nat.le_of_ble_eq_true rfl⟩) hK hP hG hS (va_recv hK hP (ci := 5) (q0 := 3) rfl (oh_wg (by decide) (sX_3 hT))) rfl hl.1 rfl (Nat.le_of_ble_eq_true rfl) dX5_walk_81 ⟨Nat.le_of_ble_eq_true rfl, Nat.le_of_ble_eq_true rfl⟩ (fun r_13 hq_14 => ?_)
          refine lv_iadd hx hb dX5_walk_84 ?_
          refine th_iast (T := TyX a E) (Rl := fr [(28, 29)] [] C) hx hb hK hP hD hS 28 (by decide) (sX_28 hT) (rg_in (rg_c (v := 1) (lo := 1) (hi := 1) (by decide)) (by decide)) (hT.up 28 (tA_upd (tX_28 hT) (tA_stc (show _ = 1 by decide) (rg_any _) (by decide)))) (fr_st hF (by decide) (by decide)) dX5_walk_85 (fun C_15 H locs e_16 hT hF hP hD hS => ?_)
          have t_17 := hT
          refine lv_aload_n hx hb dX5_walk_86 rfl (lv_at hl 2 rfl) ?_
          refine va_get (D := D) (ci := 5) (v := .ref (a 28)) (C := RX5) (T := TX5) (N := 7) hx hb htg ig_5 hown hK hP 3 (oh_wg (by decide) (sX_3 hT)) rfl 6 (by decide) (htg _ q_175) (fun _ h9 => h9) rfl dX5_walk_87 ?_
          refine lv_iconst (v := 2) hx hb dX5_walk_90 (by decide) ?_
          refine lv_dup2_11 hx hb dX5_walk_91 rfl rfl ?_
          refine th_iald hx hb hK hP 28 (by decide) (sX_28 hT) (rg_in (rg_c (v := 2) (lo := 2) (hi := 2) (by decide)) (by decide)) dX5_walk_92 ?_
          refine lv_iconst (v := 1) hx hb dX5_walk_93 (by decide) ?_
          refine lv_aload_n hx hb dX5_walk_94 rfl (lv_at hl 2 rfl) ?_
          refine va_get (D := D) (ci := 5) (v := .ref (a 1)) (C := RX5) (T := TX5) (N := 7) hx hb htg ig_5 hown hK hP 3 (oh_wg (by decide) (sX_3 hT)) rfl 0 (by decide) (htg _ q_167) (fun _ h9 => h9) rfl dX5_walk_95 ?_
          refine lv_iload_n hx hb dX5_walk_98 rfl (lv_at hl 1 rfl) ?_
          refine lv_iconst (v := 5) hx hb dX5_walk_99 (by decide) ?_
          refine tq_V (As := [.int (Int64.toInt32 x1), .int 5]) (rest := [.int 1, .int (ga (C_15 28) ((2 : Int32)).toNatClampNeg), .int 2, .ref (a 28)]) (ws := (oh_W 35 a C_15)) ⟨hx, hb, hml, hown, htg⟩ (c_X0_ofRoad l D E G a C_15 hT (Int64.toInt32 x1) (5 : Int32) (rg_w (rg_l2i (rnL_ltu (u' := 23) (oh_lc_lt c_2) (rnL_lel (oh_lc_nlt c_1) (rgL_c (v := 0) (lo := 0) (hi := 0) (by decide)) (rgL_any _)) (rgL_i (tA_rdc (lo := 0) (hi := 24) (tX_10 hT0) (rg_in (rg_c (v := 0) (lo := 0) (hi := 0) (by decide)) (by decide)) (show _ = 0 by decide) (by decide))) (by decide)) (by decide)) (by decide)) (rg_w (rg_c (v := 5) (lo := 5) (hi := 5) (by decide)) (by decide))) (cwV 2 htg (oh_gV q_755 q_480 q_481 q_67 q_482) rfl rfl rfl pdVX0_ofRoad ⟨Nat.le_of_ble_eq_true rfl, Nat.le_of_ble_eq_true rfl⟩) hK hP hG hS (va_recv hK hP (ci := 0) (q0 := 1) rfl (oh_wg (by decide) (sX_1 hT))) rfl hl.1 rfl (Nat.le_of_ble_eq_true rfl) dX5_walk_100 ⟨Nat.le_of_ble_eq_true rfl, Nat.le_of_ble_eq_true rfl⟩ (fun r_18 hq_19 => ?_)
          subst hq_19
          refine lv_ishl hx hb dX5_walk_103 ?_
          refine lv_ior hx hb dX5_walk_104 ?_
          refine th_iast (T := TyX a E) (Rl := fr [(28, 29)] [] C) hx hb hK hP hD hS 28 (by decide) (sX_28 hT) (rg_in (rg_c (v := 2) (lo := 2) (hi := 2) (by decide)) (by decide)) (hT.up 28 (tA_upd (tX_28 hT) (tA_stc (show _ = 2 by decide) (rg_any _) (by decide)))) (fr_st hF (by decide) (by decide)) dX5_walk_105 (fun C_20 H locs e_21 hT hF hP hD hS => ?_)
          have t_22 := hT
          refine lv_aload_n hx hb dX5_walk_106 rfl (lv_at hl 2 rfl) ?_
          refine va_get (D := D) (ci := 5) (v := .ref (a 28)) (C := RX5) (T := TX5) (N := 7) hx hb htg ig_5 hown hK hP 3 (oh_wg (by decide) (sX_3 hT)) rfl 6 (by decide) (htg _ q_175) (fun _ h9 => h9) rfl dX5_walk_107 ?_
          refine lv_iconst (v := 3) hx hb dX5_walk_110 (by decide) ?_
          refine lv_iload hx hb dX5_walk_111 (lv_at hl 0 rfl) ?_
          refine th_iast (T := TyX a E) (Rl := fr [(28, 29)] [] C) hx hb hK hP hD hS 28 (by decide) (sX_28 hT) (rg_in (rg_c (v := 3) (lo := 3) (hi := 3) (by decide)) (by decide)) (hT.up 28 (tA_upd (tX_28 hT) (tA_stc (show _ = 3 by decide) (rn_nel (l' := 0) c_7 hq_4 (rg_c (v := (-1)) (lo := (-1)) (hi := (-1)) (by decide)) (by decide)) (by decide)))) (fr_st hF (by decide) (by decide)) dX5_walk_113 (fun C_23 H locs e_24 hT hF hP hD hS => ?_)
          have t_25 := hT
          refine lv_iconst (v := 1) hx hb dX5_walk_114 (by decide) ?_
          rw [hQ]
          exact W.zret (v := 1) (ty := .boolean) hx hb hr (by decide) (fun t ht hW => ⟨⟨1, C_23, rfl, ⟨hT, hF, (Or.inr rfl)⟩, ⟨by rw [ht]; exact hP, hD⟩⟩, hS.F ht⟩) hS.2.2 dX5_walk_115
        · refine lv_iconst (v := 0) hx hb dX5_walk_55 (by decide) ?_
          rw [hQ]
          exact W.zret (v := 0) (ty := .boolean) hx hb hr (by decide) (fun t ht hW => ⟨⟨0, C, rfl, ⟨hT, hF, (Or.inl rfl)⟩, ⟨by rw [ht]; exact hP, hD⟩⟩, hS.F ht⟩) hS.2.2 dX5_walk_56
    · refine lv_iconst (v := 0) hx hb dX5_walk_21 (by decide) ?_
      rw [hQ]
      exact W.zret (v := 0) (ty := .boolean) hx hb hr (by decide) (fun t ht hW => ⟨⟨0, C, rfl, ⟨hT, hF, (Or.inl rfl)⟩, ⟨by rw [ht]; exact hP, hD⟩⟩, hS.F ht⟩) hS.2.2 dX5_walk_22
