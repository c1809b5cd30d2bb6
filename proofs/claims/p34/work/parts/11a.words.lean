theorem bg_dX0_addBridge_0 : bysAt cX0_addBridge 0 [42, 180, 0, 13, 4, 46, 16, 10, 104, 54, 6, 42, 180, 0, 21, 21, 6, 3, 96, 27, 79] := bysAt_of (by decide +kernel)
theorem dX0_addBridge_0 : decode cX0_addBridge 0 = .ok (.aload_n 0, 1) := o_42 (bg_dX0_addBridge_0 0 42 rfl)
theorem dX0_addBridge_1 : decode cX0_addBridge 1 = .ok (.getfield 13, 3) := o_180 (bg_dX0_addBridge_0 1 180 rfl) (bg_dX0_addBridge_0 2 0 rfl) (bg_dX0_addBridge_0 3 13 rfl)
theorem dX0_addBridge_4 : decode cX0_addBridge 4 = .ok (.iconst 1, 1) := o_4 (bg_dX0_addBridge_0 4 4 rfl)
theorem dX0_addBridge_5 : decode cX0_addBridge 5 = .ok (.iaload, 1) := o_46 (bg_dX0_addBridge_0 5 46 rfl)
theorem dX0_addBridge_6 : decode cX0_addBridge 6 = .ok (.bipush 10, 2) := o_16 (bg_dX0_addBridge_0 6 16 rfl) (bg_dX0_addBridge_0 7 10 rfl) (by decide +kernel)
theorem dX0_addBridge_8 : decode cX0_addBridge 8 = .ok (.imul, 1) := o_104 (bg_dX0_addBridge_0 8 104 rfl)
theorem dX0_addBridge_9 : decode cX0_addBridge 9 = .ok (.istore 6, 2) := o_54 (bg_dX0_addBridge_0 9 54 rfl) (bg_dX0_addBridge_0 10 6 rfl)
theorem dX0_addBridge_11 : decode cX0_addBridge 11 = .ok (.aload_n 0, 1) := o_42 (bg_dX0_addBridge_0 11 42 rfl)
theorem dX0_addBridge_12 : decode cX0_addBridge 12 = .ok (.getfield 21, 3) := o_180 (bg_dX0_addBridge_0 12 180 rfl) (bg_dX0_addBridge_0 13 0 rfl) (bg_dX0_addBridge_0 14 21 rfl)
theorem dX0_addBridge_15 : decode cX0_addBridge 15 = .ok (.iload 6, 2) := o_21 (bg_dX0_addBridge_0 15 21 rfl) (bg_dX0_addBridge_0 16 6 rfl)
theorem dX0_addBridge_17 : decode cX0_addBridge 17 = .ok (.iconst 0, 1) := o_3 (bg_dX0_addBridge_0 17 3 rfl)
theorem dX0_addBridge_18 : decode cX0_addBridge 18 = .ok (.iadd, 1) := o_96 (bg_dX0_addBridge_0 18 96 rfl)
theorem dX0_addBridge_19 : decode cX0_addBridge 19 = .ok (.iload_n 1, 1) := o_27 (bg_dX0_addBridge_0 19 27 rfl)
theorem dX0_addBridge_20 : decode cX0_addBridge 20 = .ok (.iastore, 1) := o_79 (bg_dX0_addBridge_0 20 79 rfl)
theorem bg_dX0_addBridge_21 : bysAt cX0_addBridge 21 [42, 180, 0, 21, 21, 6, 4, 96, 28, 79, 42, 180, 0, 21, 21, 6, 5, 96, 29, 79] := bysAt_of (by decide +kernel)
theorem dX0_addBridge_21 : decode cX0_addBridge 21 = .ok (.aload_n 0, 1) := o_42 (bg_dX0_addBridge_21 0 42 rfl)
theorem dX0_addBridge_22 : decode cX0_addBridge 22 = .ok (.getfield 21, 3) := o_180 (bg_dX0_addBridge_21 1 180 rfl) (bg_dX0_addBridge_21 2 0 rfl) (bg_dX0_addBridge_21 3 21 rfl)
theorem dX0_addBridge_25 : decode cX0_addBridge 25 = .ok (.iload 6, 2) := o_21 (bg_dX0_addBridge_21 4 21 rfl) (bg_dX0_addBridge_21 5 6 rfl)
theorem dX0_addBridge_27 : decode cX0_addBridge 27 = .ok (.iconst 1, 1) := o_4 (bg_dX0_addBridge_21 6 4 rfl)
theorem dX0_addBridge_28 : decode cX0_addBridge 28 = .ok (.iadd, 1) := o_96 (bg_dX0_addBridge_21 7 96 rfl)
theorem dX0_addBridge_29 : decode cX0_addBridge 29 = .ok (.iload_n 2, 1) := o_28 (bg_dX0_addBridge_21 8 28 rfl)
theorem dX0_addBridge_30 : decode cX0_addBridge 30 = .ok (.iastore, 1) := o_79 (bg_dX0_addBridge_21 9 79 rfl)
theorem dX0_addBridge_31 : decode cX0_addBridge 31 = .ok (.aload_n 0, 1) := o_42 (bg_dX0_addBridge_21 10 42 rfl)
theorem dX0_addBridge_32 : decode cX0_addBridge 32 = .ok (.getfield 21, 3) := o_180 (bg_dX0_addBridge_21 11 180 rfl) (bg_dX0_addBridge_21 12 0 rfl) (bg_dX0_addBridge_21 13 21 rfl)
theorem dX0_addBridge_35 : decode cX0_addBridge 35 = .ok (.iload 6, 2) := o_21 (bg_dX0_addBridge_21 14 21 rfl) (bg_dX0_addBridge_21 15 6 rfl)
theorem dX0_addBridge_37 : decode cX0_addBridge 37 = .ok (.iconst 2, 1) := o_5 (bg_dX0_addBridge_21 16 5 rfl)
theorem dX0_addBridge_38 : decode cX0_addBridge 38 = .ok (.iadd, 1) := o_96 (bg_dX0_addBridge_21 17 96 rfl)
theorem dX0_addBridge_39 : decode cX0_addBridge 39 = .ok (.iload_n 3, 1) := o_29 (bg_dX0_addBridge_21 18 29 rfl)
theorem dX0_addBridge_40 : decode cX0_addBridge 40 = .ok (.iastore, 1) := o_79 (bg_dX0_addBridge_21 19 79 rfl)
theorem bg_dX0_addBridge_41 : bysAt cX0_addBridge 41 [42, 180, 0, 21, 21, 6, 6, 96, 21, 4, 79, 42, 180, 0, 21, 21, 6, 7, 96, 21, 5, 79] := bysAt_of (by decide +kernel)
theorem dX0_addBridge_41 : decode cX0_addBridge 41 = .ok (.aload_n 0, 1) := o_42 (bg_dX0_addBridge_41 0 42 rfl)
theorem dX0_addBridge_42 : decode cX0_addBridge 42 = .ok (.getfield 21, 3) := o_180 (bg_dX0_addBridge_41 1 180 rfl) (bg_dX0_addBridge_41 2 0 rfl) (bg_dX0_addBridge_41 3 21 rfl)
theorem dX0_addBridge_45 : decode cX0_addBridge 45 = .ok (.iload 6, 2) := o_21 (bg_dX0_addBridge_41 4 21 rfl) (bg_dX0_addBridge_41 5 6 rfl)
theorem dX0_addBridge_47 : decode cX0_addBridge 47 = .ok (.iconst 3, 1) := o_6 (bg_dX0_addBridge_41 6 6 rfl)
theorem dX0_addBridge_48 : decode cX0_addBridge 48 = .ok (.iadd, 1) := o_96 (bg_dX0_addBridge_41 7 96 rfl)
theorem dX0_addBridge_49 : decode cX0_addBridge 49 = .ok (.iload 4, 2) := o_21 (bg_dX0_addBridge_41 8 21 rfl) (bg_dX0_addBridge_41 9 4 rfl)
theorem dX0_addBridge_51 : decode cX0_addBridge 51 = .ok (.iastore, 1) := o_79 (bg_dX0_addBridge_41 10 79 rfl)
theorem dX0_addBridge_52 : decode cX0_addBridge 52 = .ok (.aload_n 0, 1) := o_42 (bg_dX0_addBridge_41 11 42 rfl)
theorem dX0_addBridge_53 : decode cX0_addBridge 53 = .ok (.getfield 21, 3) := o_180 (bg_dX0_addBridge_41 12 180 rfl) (bg_dX0_addBridge_41 13 0 rfl) (bg_dX0_addBridge_41 14 21 rfl)
theorem dX0_addBridge_56 : decode cX0_addBridge 56 = .ok (.iload 6, 2) := o_21 (bg_dX0_addBridge_41 15 21 rfl) (bg_dX0_addBridge_41 16 6 rfl)
theorem dX0_addBridge_58 : decode cX0_addBridge 58 = .ok (.iconst 4, 1) := o_7 (bg_dX0_addBridge_41 17 7 rfl)
theorem dX0_addBridge_59 : decode cX0_addBridge 59 = .ok (.iadd, 1) := o_96 (bg_dX0_addBridge_41 18 96 rfl)
theorem dX0_addBridge_60 : decode cX0_addBridge 60 = .ok (.iload 5, 2) := o_21 (bg_dX0_addBridge_41 19 21 rfl) (bg_dX0_addBridge_41 20 5 rfl)
theorem dX0_addBridge_62 : decode cX0_addBridge 62 = .ok (.iastore, 1) := o_79 (bg_dX0_addBridge_41 21 79 rfl)
theorem bg_dX0_addBridge_63 : bysAt cX0_addBridge 63 [8, 54, 7, 21, 7, 16, 10, 162, 0, 20, 42, 180, 0, 21, 21, 6, 21, 7, 96, 3, 79, 132, 7, 1, 167, 255, 235, 42] := bysAt_of (by decide +kernel)
theorem dX0_addBridge_63 : decode cX0_addBridge 63 = .ok (.iconst 5, 1) := o_8 (bg_dX0_addBridge_63 0 8 rfl)
theorem dX0_addBridge_64 : decode cX0_addBridge 64 = .ok (.istore 7, 2) := o_54 (bg_dX0_addBridge_63 1 54 rfl) (bg_dX0_addBridge_63 2 7 rfl)
theorem dX0_addBridge_66 : decode cX0_addBridge 66 = .ok (.iload 7, 2) := o_21 (bg_dX0_addBridge_63 3 21 rfl) (bg_dX0_addBridge_63 4 7 rfl)
theorem dX0_addBridge_68 : decode cX0_addBridge 68 = .ok (.bipush 10, 2) := o_16 (bg_dX0_addBridge_63 5 16 rfl) (bg_dX0_addBridge_63 6 10 rfl) (by decide +kernel)
theorem dX0_addBridge_70 : decode cX0_addBridge 70 = .ok (.if_icmp .ge 20, 3) := o_162 (bg_dX0_addBridge_63 7 162 rfl) (bg_dX0_addBridge_63 8 0 rfl) (bg_dX0_addBridge_63 9 20 rfl) (by decide +kernel)
theorem dX0_addBridge_73 : decode cX0_addBridge 73 = .ok (.aload_n 0, 1) := o_42 (bg_dX0_addBridge_63 10 42 rfl)
theorem dX0_addBridge_74 : decode cX0_addBridge 74 = .ok (.getfield 21, 3) := o_180 (bg_dX0_addBridge_63 11 180 rfl) (bg_dX0_addBridge_63 12 0 rfl) (bg_dX0_addBridge_63 13 21 rfl)
theorem dX0_addBridge_77 : decode cX0_addBridge 77 = .ok (.iload 6, 2) := o_21 (bg_dX0_addBridge_63 14 21 rfl) (bg_dX0_addBridge_63 15 6 rfl)
theorem dX0_addBridge_79 : decode cX0_addBridge 79 = .ok (.iload 7, 2) := o_21 (bg_dX0_addBridge_63 16 21 rfl) (bg_dX0_addBridge_63 17 7 rfl)
theorem dX0_addBridge_81 : decode cX0_addBridge 81 = .ok (.iadd, 1) := o_96 (bg_dX0_addBridge_63 18 96 rfl)
theorem dX0_addBridge_82 : decode cX0_addBridge 82 = .ok (.iconst 0, 1) := o_3 (bg_dX0_addBridge_63 19 3 rfl)
theorem dX0_addBridge_83 : decode cX0_addBridge 83 = .ok (.iastore, 1) := o_79 (bg_dX0_addBridge_63 20 79 rfl)
theorem dX0_addBridge_87 : decode cX0_addBridge 87 = .ok (.goto (-21), 3) := o_167 (bg_dX0_addBridge_63 24 167 rfl) (bg_dX0_addBridge_63 25 255 rfl) (bg_dX0_addBridge_63 26 235 rfl) (by decide +kernel)
theorem dX0_addBridge_90 : decode cX0_addBridge 90 = .ok (.aload_n 0, 1) := o_42 (bg_dX0_addBridge_63 27 42 rfl)
theorem bg_dX0_addBridge_91 : bysAt cX0_addBridge 91 [180, 0, 13, 4, 92, 46, 91, 4, 96, 79, 172] := bysAt_of (by decide +kernel)
theorem dX0_addBridge_91 : decode cX0_addBridge 91 = .ok (.getfield 13, 3) := o_180 (bg_dX0_addBridge_91 0 180 rfl) (bg_dX0_addBridge_91 1 0 rfl) (bg_dX0_addBridge_91 2 13 rfl)
theorem dX0_addBridge_94 : decode cX0_addBridge 94 = .ok (.iconst 1, 1) := o_4 (bg_dX0_addBridge_91 3 4 rfl)
theorem dX0_addBridge_95 : decode cX0_addBridge 95 = .ok (.dup2, 1) := o_92 (bg_dX0_addBridge_91 4 92 rfl)
theorem dX0_addBridge_96 : decode cX0_addBridge 96 = .ok (.iaload, 1) := o_46 (bg_dX0_addBridge_91 5 46 rfl)
theorem dX0_addBridge_97 : decode cX0_addBridge 97 = .ok (.dup_x2, 1) := o_91 (bg_dX0_addBridge_91 6 91 rfl)
theorem dX0_addBridge_98 : decode cX0_addBridge 98 = .ok (.iconst 1, 1) := o_4 (bg_dX0_addBridge_91 7 4 rfl)
theorem dX0_addBridge_99 : decode cX0_addBridge 99 = .ok (.iadd, 1) := o_96 (bg_dX0_addBridge_91 8 96 rfl)
theorem dX0_addBridge_100 : decode cX0_addBridge 100 = .ok (.iastore, 1) := o_79 (bg_dX0_addBridge_91 9 79 rfl)
theorem dX0_addBridge_101 : decode cX0_addBridge 101 = .ok (.ireturn, 1) := o_172 (bg_dX0_addBridge_91 10 172 rfl)
theorem bg_dX0_addPart_0 : bysAt cX0_addPart 0 [42, 180, 0, 13, 6, 46, 5, 104, 62, 42, 180, 0, 27, 29, 3, 96, 27, 79] := bysAt_of (by decide +kernel)
theorem dX0_addPart_0 : decode cX0_addPart 0 = .ok (.aload_n 0, 1) := o_42 (bg_dX0_addPart_0 0 42 rfl)
theorem dX0_addPart_1 : decode cX0_addPart 1 = .ok (.getfield 13, 3) := o_180 (bg_dX0_addPart_0 1 180 rfl) (bg_dX0_addPart_0 2 0 rfl) (bg_dX0_addPart_0 3 13 rfl)
theorem dX0_addPart_4 : decode cX0_addPart 4 = .ok (.iconst 3, 1) := o_6 (bg_dX0_addPart_0 4 6 rfl)
theorem dX0_addPart_5 : decode cX0_addPart 5 = .ok (.iaload, 1) := o_46 (bg_dX0_addPart_0 5 46 rfl)
theorem dX0_addPart_6 : decode cX0_addPart 6 = .ok (.iconst 2, 1) := o_5 (bg_dX0_addPart_0 6 5 rfl)
theorem dX0_addPart_7 : decode cX0_addPart 7 = .ok (.imul, 1) := o_104 (bg_dX0_addPart_0 7 104 rfl)
theorem dX0_addPart_8 : decode cX0_addPart 8 = .ok (.istore_n 3, 1) := o_62 (bg_dX0_addPart_0 8 62 rfl)
theorem dX0_addPart_9 : decode cX0_addPart 9 = .ok (.aload_n 0, 1) := o_42 (bg_dX0_addPart_0 9 42 rfl)
theorem dX0_addPart_10 : decode cX0_addPart 10 = .ok (.getfield 27, 3) := o_180 (bg_dX0_addPart_0 10 180 rfl) (bg_dX0_addPart_0 11 0 rfl) (bg_dX0_addPart_0 12 27 rfl)
theorem dX0_addPart_13 : decode cX0_addPart 13 = .ok (.iload_n 3, 1) := o_29 (bg_dX0_addPart_0 13 29 rfl)
theorem dX0_addPart_14 : decode cX0_addPart 14 = .ok (.iconst 0, 1) := o_3 (bg_dX0_addPart_0 14 3 rfl)
theorem dX0_addPart_15 : decode cX0_addPart 15 = .ok (.iadd, 1) := o_96 (bg_dX0_addPart_0 15 96 rfl)
theorem dX0_addPart_16 : decode cX0_addPart 16 = .ok (.iload_n 1, 1) := o_27 (bg_dX0_addPart_0 16 27 rfl)
theorem dX0_addPart_17 : decode cX0_addPart 17 = .ok (.iastore, 1) := o_79 (bg_dX0_addPart_0 17 79 rfl)
theorem bg_dX0_addPart_18 : bysAt cX0_addPart 18 [42, 180, 0, 27, 29, 4, 96, 28, 79, 42, 180, 0, 13, 6, 92, 46, 91, 4] := bysAt_of (by decide +kernel)
theorem dX0_addPart_18 : decode cX0_addPart 18 = .ok (.aload_n 0, 1) := o_42 (bg_dX0_addPart_18 0 42 rfl)
theorem dX0_addPart_19 : decode cX0_addPart 19 = .ok (.getfield 27, 3) := o_180 (bg_dX0_addPart_18 1 180 rfl) (bg_dX0_addPart_18 2 0 rfl) (bg_dX0_addPart_18 3 27 rfl)
theorem dX0_addPart_22 : decode cX0_addPart 22 = .ok (.iload_n 3, 1) := o_29 (bg_dX0_addPart_18 4 29 rfl)
theorem dX0_addPart_23 : decode cX0_addPart 23 = .ok (.iconst 1, 1) := o_4 (bg_dX0_addPart_18 5 4 rfl)
theorem dX0_addPart_24 : decode cX0_addPart 24 = .ok (.iadd, 1) := o_96 (bg_dX0_addPart_18 6 96 rfl)
theorem dX0_addPart_25 : decode cX0_addPart 25 = .ok (.iload_n 2, 1) := o_28 (bg_dX0_addPart_18 7 28 rfl)
theorem dX0_addPart_26 : decode cX0_addPart 26 = .ok (.iastore, 1) := o_79 (bg_dX0_addPart_18 8 79 rfl)
theorem dX0_addPart_27 : decode cX0_addPart 27 = .ok (.aload_n 0, 1) := o_42 (bg_dX0_addPart_18 9 42 rfl)
theorem dX0_addPart_28 : decode cX0_addPart 28 = .ok (.getfield 13, 3) := o_180 (bg_dX0_addPart_18 10 180 rfl) (bg_dX0_addPart_18 11 0 rfl) (bg_dX0_addPart_18 12 13 rfl)
theorem dX0_addPart_31 : decode cX0_addPart 31 = .ok (.iconst 3, 1) := o_6 (bg_dX0_addPart_18 13 6 rfl)
theorem dX0_addPart_32 : decode cX0_addPart 32 = .ok (.dup2, 1) := o_92 (bg_dX0_addPart_18 14 92 rfl)
theorem dX0_addPart_33 : decode cX0_addPart 33 = .ok (.iaload, 1) := o_46 (bg_dX0_addPart_18 15 46 rfl)
theorem dX0_addPart_34 : decode cX0_addPart 34 = .ok (.dup_x2, 1) := o_91 (bg_dX0_addPart_18 16 91 rfl)
theorem dX0_addPart_35 : decode cX0_addPart 35 = .ok (.iconst 1, 1) := o_4 (bg_dX0_addPart_18 17 4 rfl)
theorem bg_dX0_addPart_36 : bysAt cX0_addPart 36 [96, 79, 172] := bysAt_of (by decide +kernel)
theorem dX0_addPart_36 : decode cX0_addPart 36 = .ok (.iadd, 1) := o_96 (bg_dX0_addPart_36 0 96 rfl)
theorem dX0_addPart_37 : decode cX0_addPart 37 = .ok (.iastore, 1) := o_79 (bg_dX0_addPart_36 1 79 rfl)
theorem dX0_addPart_38 : decode cX0_addPart 38 = .ok (.ireturn, 1) := o_172 (bg_dX0_addPart_36 2 172 rfl)
theorem bg_dX0_addRoad_0 : bysAt cX0_addRoad 0 [42, 180, 0, 13, 3, 46, 16, 7, 104, 54, 7, 42, 180, 0, 18, 21, 7, 3, 96, 27, 79] := bysAt_of (by decide +kernel)
theorem dX0_addRoad_0 : decode cX0_addRoad 0 = .ok (.aload_n 0, 1) := o_42 (bg_dX0_addRoad_0 0 42 rfl)
theorem dX0_addRoad_1 : decode cX0_addRoad 1 = .ok (.getfield 13, 3) := o_180 (bg_dX0_addRoad_0 1 180 rfl) (bg_dX0_addRoad_0 2 0 rfl) (bg_dX0_addRoad_0 3 13 rfl)
theorem dX0_addRoad_4 : decode cX0_addRoad 4 = .ok (.iconst 0, 1) := o_3 (bg_dX0_addRoad_0 4 3 rfl)
theorem dX0_addRoad_5 : decode cX0_addRoad 5 = .ok (.iaload, 1) := o_46 (bg_dX0_addRoad_0 5 46 rfl)
theorem dX0_addRoad_6 : decode cX0_addRoad 6 = .ok (.bipush 7, 2) := o_16 (bg_dX0_addRoad_0 6 16 rfl) (bg_dX0_addRoad_0 7 7 rfl) (by decide +kernel)
theorem dX0_addRoad_8 : decode cX0_addRoad 8 = .ok (.imul, 1) := o_104 (bg_dX0_addRoad_0 8 104 rfl)
theorem dX0_addRoad_9 : decode cX0_addRoad 9 = .ok (.istore 7, 2) := o_54 (bg_dX0_addRoad_0 9 54 rfl) (bg_dX0_addRoad_0 10 7 rfl)
theorem dX0_addRoad_11 : decode cX0_addRoad 11 = .ok (.aload_n 0, 1) := o_42 (bg_dX0_addRoad_0 11 42 rfl)
theorem dX0_addRoad_12 : decode cX0_addRoad 12 = .ok (.getfield 18, 3) := o_180 (bg_dX0_addRoad_0 12 180 rfl) (bg_dX0_addRoad_0 13 0 rfl) (bg_dX0_addRoad_0 14 18 rfl)
theorem dX0_addRoad_15 : decode cX0_addRoad 15 = .ok (.iload 7, 2) := o_21 (bg_dX0_addRoad_0 15 21 rfl) (bg_dX0_addRoad_0 16 7 rfl)
theorem dX0_addRoad_17 : decode cX0_addRoad 17 = .ok (.iconst 0, 1) := o_3 (bg_dX0_addRoad_0 17 3 rfl)
theorem dX0_addRoad_18 : decode cX0_addRoad 18 = .ok (.iadd, 1) := o_96 (bg_dX0_addRoad_0 18 96 rfl)
theorem dX0_addRoad_19 : decode cX0_addRoad 19 = .ok (.iload_n 1, 1) := o_27 (bg_dX0_addRoad_0 19 27 rfl)
theorem dX0_addRoad_20 : decode cX0_addRoad 20 = .ok (.iastore, 1) := o_79 (bg_dX0_addRoad_0 20 79 rfl)
theorem bg_dX0_addRoad_21 : bysAt cX0_addRoad 21 [42, 180, 0, 18, 21, 7, 4, 96, 28, 79, 42, 180, 0, 18, 21, 7, 5, 96, 29, 79] := bysAt_of (by decide +kernel)
theorem dX0_addRoad_21 : decode cX0_addRoad 21 = .ok (.aload_n 0, 1) := o_42 (bg_dX0_addRoad_21 0 42 rfl)
theorem dX0_addRoad_22 : decode cX0_addRoad 22 = .ok (.getfield 18, 3) := o_180 (bg_dX0_addRoad_21 1 180 rfl) (bg_dX0_addRoad_21 2 0 rfl) (bg_dX0_addRoad_21 3 18 rfl)
theorem dX0_addRoad_25 : decode cX0_addRoad 25 = .ok (.iload 7, 2) := o_21 (bg_dX0_addRoad_21 4 21 rfl) (bg_dX0_addRoad_21 5 7 rfl)
theorem dX0_addRoad_27 : decode cX0_addRoad 27 = .ok (.iconst 1, 1) := o_4 (bg_dX0_addRoad_21 6 4 rfl)
theorem dX0_addRoad_28 : decode cX0_addRoad 28 = .ok (.iadd, 1) := o_96 (bg_dX0_addRoad_21 7 96 rfl)
theorem dX0_addRoad_29 : decode cX0_addRoad 29 = .ok (.iload_n 2, 1) := o_28 (bg_dX0_addRoad_21 8 28 rfl)
theorem dX0_addRoad_30 : decode cX0_addRoad 30 = .ok (.iastore, 1) := o_79 (bg_dX0_addRoad_21 9 79 rfl)
theorem dX0_addRoad_31 : decode cX0_addRoad 31 = .ok (.aload_n 0, 1) := o_42 (bg_dX0_addRoad_21 10 42 rfl)
theorem dX0_addRoad_32 : decode cX0_addRoad 32 = .ok (.getfield 18, 3) := o_180 (bg_dX0_addRoad_21 11 180 rfl) (bg_dX0_addRoad_21 12 0 rfl) (bg_dX0_addRoad_21 13 18 rfl)
theorem dX0_addRoad_35 : decode cX0_addRoad 35 = .ok (.iload 7, 2) := o_21 (bg_dX0_addRoad_21 14 21 rfl) (bg_dX0_addRoad_21 15 7 rfl)
theorem dX0_addRoad_37 : decode cX0_addRoad 37 = .ok (.iconst 2, 1) := o_5 (bg_dX0_addRoad_21 16 5 rfl)
theorem dX0_addRoad_38 : decode cX0_addRoad 38 = .ok (.iadd, 1) := o_96 (bg_dX0_addRoad_21 17 96 rfl)
theorem dX0_addRoad_39 : decode cX0_addRoad 39 = .ok (.iload_n 3, 1) := o_29 (bg_dX0_addRoad_21 18 29 rfl)
theorem dX0_addRoad_40 : decode cX0_addRoad 40 = .ok (.iastore, 1) := o_79 (bg_dX0_addRoad_21 19 79 rfl)
theorem bg_dX0_addRoad_41 : bysAt cX0_addRoad 41 [42, 180, 0, 18, 21, 7, 6, 96, 21, 4, 79, 42, 180, 0, 18, 21, 7, 7, 96, 21, 5, 79] := bysAt_of (by decide +kernel)
theorem dX0_addRoad_41 : decode cX0_addRoad 41 = .ok (.aload_n 0, 1) := o_42 (bg_dX0_addRoad_41 0 42 rfl)
theorem dX0_addRoad_42 : decode cX0_addRoad 42 = .ok (.getfield 18, 3) := o_180 (bg_dX0_addRoad_41 1 180 rfl) (bg_dX0_addRoad_41 2 0 rfl) (bg_dX0_addRoad_41 3 18 rfl)
theorem dX0_addRoad_45 : decode cX0_addRoad 45 = .ok (.iload 7, 2) := o_21 (bg_dX0_addRoad_41 4 21 rfl) (bg_dX0_addRoad_41 5 7 rfl)
theorem dX0_addRoad_47 : decode cX0_addRoad 47 = .ok (.iconst 3, 1) := o_6 (bg_dX0_addRoad_41 6 6 rfl)
theorem dX0_addRoad_48 : decode cX0_addRoad 48 = .ok (.iadd, 1) := o_96 (bg_dX0_addRoad_41 7 96 rfl)
theorem dX0_addRoad_49 : decode cX0_addRoad 49 = .ok (.iload 4, 2) := o_21 (bg_dX0_addRoad_41 8 21 rfl) (bg_dX0_addRoad_41 9 4 rfl)
theorem dX0_addRoad_51 : decode cX0_addRoad 51 = .ok (.iastore, 1) := o_79 (bg_dX0_addRoad_41 10 79 rfl)
theorem dX0_addRoad_52 : decode cX0_addRoad 52 = .ok (.aload_n 0, 1) := o_42 (bg_dX0_addRoad_41 11 42 rfl)
theorem dX0_addRoad_53 : decode cX0_addRoad 53 = .ok (.getfield 18, 3) := o_180 (bg_dX0_addRoad_41 12 180 rfl) (bg_dX0_addRoad_41 13 0 rfl) (bg_dX0_addRoad_41 14 18 rfl)
theorem dX0_addRoad_56 : decode cX0_addRoad 56 = .ok (.iload 7, 2) := o_21 (bg_dX0_addRoad_41 15 21 rfl) (bg_dX0_addRoad_41 16 7 rfl)
theorem dX0_addRoad_58 : decode cX0_addRoad 58 = .ok (.iconst 4, 1) := o_7 (bg_dX0_addRoad_41 17 7 rfl)
theorem dX0_addRoad_59 : decode cX0_addRoad 59 = .ok (.iadd, 1) := o_96 (bg_dX0_addRoad_41 18 96 rfl)
theorem dX0_addRoad_60 : decode cX0_addRoad 60 = .ok (.iload 5, 2) := o_21 (bg_dX0_addRoad_41 19 21 rfl) (bg_dX0_addRoad_41 20 5 rfl)
theorem dX0_addRoad_62 : decode cX0_addRoad 62 = .ok (.iastore, 1) := o_79 (bg_dX0_addRoad_41 21 79 rfl)
theorem bg_dX0_addRoad_63 : bysAt cX0_addRoad 63 [42, 180, 0, 18, 21, 7, 8, 96, 21, 6, 79, 42, 180, 0, 18, 21, 7, 16, 6, 96, 3, 79] := bysAt_of (by decide +kernel)
theorem dX0_addRoad_63 : decode cX0_addRoad 63 = .ok (.aload_n 0, 1) := o_42 (bg_dX0_addRoad_63 0 42 rfl)
theorem dX0_addRoad_64 : decode cX0_addRoad 64 = .ok (.getfield 18, 3) := o_180 (bg_dX0_addRoad_63 1 180 rfl) (bg_dX0_addRoad_63 2 0 rfl) (bg_dX0_addRoad_63 3 18 rfl)
theorem dX0_addRoad_67 : decode cX0_addRoad 67 = .ok (.iload 7, 2) := o_21 (bg_dX0_addRoad_63 4 21 rfl) (bg_dX0_addRoad_63 5 7 rfl)
theorem dX0_addRoad_69 : decode cX0_addRoad 69 = .ok (.iconst 5, 1) := o_8 (bg_dX0_addRoad_63 6 8 rfl)
theorem dX0_addRoad_70 : decode cX0_addRoad 70 = .ok (.iadd, 1) := o_96 (bg_dX0_addRoad_63 7 96 rfl)
theorem dX0_addRoad_71 : decode cX0_addRoad 71 = .ok (.iload 6, 2) := o_21 (bg_dX0_addRoad_63 8 21 rfl) (bg_dX0_addRoad_63 9 6 rfl)
theorem dX0_addRoad_73 : decode cX0_addRoad 73 = .ok (.iastore, 1) := o_79 (bg_dX0_addRoad_63 10 79 rfl)
theorem dX0_addRoad_74 : decode cX0_addRoad 74 = .ok (.aload_n 0, 1) := o_42 (bg_dX0_addRoad_63 11 42 rfl)
theorem dX0_addRoad_75 : decode cX0_addRoad 75 = .ok (.getfield 18, 3) := o_180 (bg_dX0_addRoad_63 12 180 rfl) (bg_dX0_addRoad_63 13 0 rfl) (bg_dX0_addRoad_63 14 18 rfl)
theorem dX0_addRoad_78 : decode cX0_addRoad 78 = .ok (.iload 7, 2) := o_21 (bg_dX0_addRoad_63 15 21 rfl) (bg_dX0_addRoad_63 16 7 rfl)
theorem dX0_addRoad_80 : decode cX0_addRoad 80 = .ok (.bipush 6, 2) := o_16 (bg_dX0_addRoad_63 17 16 rfl) (bg_dX0_addRoad_63 18 6 rfl) (by decide +kernel)
theorem dX0_addRoad_82 : decode cX0_addRoad 82 = .ok (.iadd, 1) := o_96 (bg_dX0_addRoad_63 19 96 rfl)
theorem dX0_addRoad_83 : decode cX0_addRoad 83 = .ok (.iconst 0, 1) := o_3 (bg_dX0_addRoad_63 20 3 rfl)
theorem dX0_addRoad_84 : decode cX0_addRoad 84 = .ok (.iastore, 1) := o_79 (bg_dX0_addRoad_63 21 79 rfl)
theorem bg_dX0_addRoad_85 : bysAt cX0_addRoad 85 [42, 180, 0, 13, 3, 92, 46, 91, 4, 96, 79, 172] := bysAt_of (by decide +kernel)
theorem dX0_addRoad_85 : decode cX0_addRoad 85 = .ok (.aload_n 0, 1) := o_42 (bg_dX0_addRoad_85 0 42 rfl)
theorem dX0_addRoad_86 : decode cX0_addRoad 86 = .ok (.getfield 13, 3) := o_180 (bg_dX0_addRoad_85 1 180 rfl) (bg_dX0_addRoad_85 2 0 rfl) (bg_dX0_addRoad_85 3 13 rfl)
theorem dX0_addRoad_89 : decode cX0_addRoad 89 = .ok (.iconst 0, 1) := o_3 (bg_dX0_addRoad_85 4 3 rfl)
theorem dX0_addRoad_90 : decode cX0_addRoad 90 = .ok (.dup2, 1) := o_92 (bg_dX0_addRoad_85 5 92 rfl)
theorem dX0_addRoad_91 : decode cX0_addRoad 91 = .ok (.iaload, 1) := o_46 (bg_dX0_addRoad_85 6 46 rfl)
theorem dX0_addRoad_92 : decode cX0_addRoad 92 = .ok (.dup_x2, 1) := o_91 (bg_dX0_addRoad_85 7 91 rfl)
theorem dX0_addRoad_93 : decode cX0_addRoad 93 = .ok (.iconst 1, 1) := o_4 (bg_dX0_addRoad_85 8 4 rfl)
theorem dX0_addRoad_94 : decode cX0_addRoad 94 = .ok (.iadd, 1) := o_96 (bg_dX0_addRoad_85 9 96 rfl)
theorem dX0_addRoad_95 : decode cX0_addRoad 95 = .ok (.iastore, 1) := o_79 (bg_dX0_addRoad_85 10 79 rfl)
theorem dX0_addRoad_96 : decode cX0_addRoad 96 = .ok (.ireturn, 1) := o_172 (bg_dX0_addRoad_85 11 172 rfl)
theorem bg_dX0_addWaggon_0 : bysAt cX0_addWaggon 0 [42, 180, 0, 13, 5, 46, 6, 104, 54, 4, 42, 180, 0, 24, 21, 4, 3, 96, 27, 79] := bysAt_of (by decide +kernel)
theorem dX0_addWaggon_0 : decode cX0_addWaggon 0 = .ok (.aload_n 0, 1) := o_42 (bg_dX0_addWaggon_0 0 42 rfl)
theorem dX0_addWaggon_1 : decode cX0_addWaggon 1 = .ok (.getfield 13, 3) := o_180 (bg_dX0_addWaggon_0 1 180 rfl) (bg_dX0_addWaggon_0 2 0 rfl) (bg_dX0_addWaggon_0 3 13 rfl)
theorem dX0_addWaggon_4 : decode cX0_addWaggon 4 = .ok (.iconst 2, 1) := o_5 (bg_dX0_addWaggon_0 4 5 rfl)
theorem dX0_addWaggon_5 : decode cX0_addWaggon 5 = .ok (.iaload, 1) := o_46 (bg_dX0_addWaggon_0 5 46 rfl)
theorem dX0_addWaggon_6 : decode cX0_addWaggon 6 = .ok (.iconst 3, 1) := o_6 (bg_dX0_addWaggon_0 6 6 rfl)
theorem dX0_addWaggon_7 : decode cX0_addWaggon 7 = .ok (.imul, 1) := o_104 (bg_dX0_addWaggon_0 7 104 rfl)
theorem dX0_addWaggon_8 : decode cX0_addWaggon 8 = .ok (.istore 4, 2) := o_54 (bg_dX0_addWaggon_0 8 54 rfl) (bg_dX0_addWaggon_0 9 4 rfl)
theorem dX0_addWaggon_10 : decode cX0_addWaggon 10 = .ok (.aload_n 0, 1) := o_42 (bg_dX0_addWaggon_0 10 42 rfl)
theorem dX0_addWaggon_11 : decode cX0_addWaggon 11 = .ok (.getfield 24, 3) := o_180 (bg_dX0_addWaggon_0 11 180 rfl) (bg_dX0_addWaggon_0 12 0 rfl) (bg_dX0_addWaggon_0 13 24 rfl)
theorem dX0_addWaggon_14 : decode cX0_addWaggon 14 = .ok (.iload 4, 2) := o_21 (bg_dX0_addWaggon_0 14 21 rfl) (bg_dX0_addWaggon_0 15 4 rfl)
theorem dX0_addWaggon_16 : decode cX0_addWaggon 16 = .ok (.iconst 0, 1) := o_3 (bg_dX0_addWaggon_0 16 3 rfl)
theorem dX0_addWaggon_17 : decode cX0_addWaggon 17 = .ok (.iadd, 1) := o_96 (bg_dX0_addWaggon_0 17 96 rfl)
theorem dX0_addWaggon_18 : decode cX0_addWaggon 18 = .ok (.iload_n 1, 1) := o_27 (bg_dX0_addWaggon_0 18 27 rfl)
theorem dX0_addWaggon_19 : decode cX0_addWaggon 19 = .ok (.iastore, 1) := o_79 (bg_dX0_addWaggon_0 19 79 rfl)
theorem bg_dX0_addWaggon_20 : bysAt cX0_addWaggon 20 [42, 180, 0, 24, 21, 4, 4, 96, 28, 79, 42, 180, 0, 24, 21, 4, 5, 96, 29, 79] := bysAt_of (by decide +kernel)
theorem dX0_addWaggon_20 : decode cX0_addWaggon 20 = .ok (.aload_n 0, 1) := o_42 (bg_dX0_addWaggon_20 0 42 rfl)
theorem dX0_addWaggon_21 : decode cX0_addWaggon 21 = .ok (.getfield 24, 3) := o_180 (bg_dX0_addWaggon_20 1 180 rfl) (bg_dX0_addWaggon_20 2 0 rfl) (bg_dX0_addWaggon_20 3 24 rfl)
theorem dX0_addWaggon_24 : decode cX0_addWaggon 24 = .ok (.iload 4, 2) := o_21 (bg_dX0_addWaggon_20 4 21 rfl) (bg_dX0_addWaggon_20 5 4 rfl)
theorem dX0_addWaggon_26 : decode cX0_addWaggon 26 = .ok (.iconst 1, 1) := o_4 (bg_dX0_addWaggon_20 6 4 rfl)
theorem dX0_addWaggon_27 : decode cX0_addWaggon 27 = .ok (.iadd, 1) := o_96 (bg_dX0_addWaggon_20 7 96 rfl)
theorem dX0_addWaggon_28 : decode cX0_addWaggon 28 = .ok (.iload_n 2, 1) := o_28 (bg_dX0_addWaggon_20 8 28 rfl)
theorem dX0_addWaggon_29 : decode cX0_addWaggon 29 = .ok (.iastore, 1) := o_79 (bg_dX0_addWaggon_20 9 79 rfl)
theorem dX0_addWaggon_30 : decode cX0_addWaggon 30 = .ok (.aload_n 0, 1) := o_42 (bg_dX0_addWaggon_20 10 42 rfl)
theorem dX0_addWaggon_31 : decode cX0_addWaggon 31 = .ok (.getfield 24, 3) := o_180 (bg_dX0_addWaggon_20 11 180 rfl) (bg_dX0_addWaggon_20 12 0 rfl) (bg_dX0_addWaggon_20 13 24 rfl)
theorem dX0_addWaggon_34 : decode cX0_addWaggon 34 = .ok (.iload 4, 2) := o_21 (bg_dX0_addWaggon_20 14 21 rfl) (bg_dX0_addWaggon_20 15 4 rfl)
theorem dX0_addWaggon_36 : decode cX0_addWaggon 36 = .ok (.iconst 2, 1) := o_5 (bg_dX0_addWaggon_20 16 5 rfl)
theorem dX0_addWaggon_37 : decode cX0_addWaggon 37 = .ok (.iadd, 1) := o_96 (bg_dX0_addWaggon_20 17 96 rfl)
theorem dX0_addWaggon_38 : decode cX0_addWaggon 38 = .ok (.iload_n 3, 1) := o_29 (bg_dX0_addWaggon_20 18 29 rfl)
theorem dX0_addWaggon_39 : decode cX0_addWaggon 39 = .ok (.iastore, 1) := o_79 (bg_dX0_addWaggon_20 19 79 rfl)
theorem bg_dX0_addWaggon_40 : bysAt cX0_addWaggon 40 [42, 180, 0, 13, 5, 92, 46, 91, 4, 96, 79, 172] := bysAt_of (by decide +kernel)
theorem dX0_addWaggon_40 : decode cX0_addWaggon 40 = .ok (.aload_n 0, 1) := o_42 (bg_dX0_addWaggon_40 0 42 rfl)
theorem dX0_addWaggon_41 : decode cX0_addWaggon 41 = .ok (.getfield 13, 3) := o_180 (bg_dX0_addWaggon_40 1 180 rfl) (bg_dX0_addWaggon_40 2 0 rfl) (bg_dX0_addWaggon_40 3 13 rfl)
theorem dX0_addWaggon_44 : decode cX0_addWaggon 44 = .ok (.iconst 2, 1) := o_5 (bg_dX0_addWaggon_40 4 5 rfl)
theorem dX0_addWaggon_45 : decode cX0_addWaggon 45 = .ok (.dup2, 1) := o_92 (bg_dX0_addWaggon_40 5 92 rfl)
theorem dX0_addWaggon_46 : decode cX0_addWaggon 46 = .ok (.iaload, 1) := o_46 (bg_dX0_addWaggon_40 6 46 rfl)
theorem dX0_addWaggon_47 : decode cX0_addWaggon 47 = .ok (.dup_x2, 1) := o_91 (bg_dX0_addWaggon_40 7 91 rfl)
theorem dX0_addWaggon_48 : decode cX0_addWaggon 48 = .ok (.iconst 1, 1) := o_4 (bg_dX0_addWaggon_40 8 4 rfl)
theorem dX0_addWaggon_49 : decode cX0_addWaggon 49 = .ok (.iadd, 1) := o_96 (bg_dX0_addWaggon_40 9 96 rfl)
theorem dX0_addWaggon_50 : decode cX0_addWaggon 50 = .ok (.iastore, 1) := o_79 (bg_dX0_addWaggon_40 10 79 rfl)
theorem dX0_addWaggon_51 : decode cX0_addWaggon 51 = .ok (.ireturn, 1) := o_172 (bg_dX0_addWaggon_40 11 172 rfl)
theorem bg_dX0_bearsAll_0 : bysAt cX0_bearsAll 0 [27, 16, 10, 104, 62, 42, 180, 0, 21, 29, 4, 96, 46, 54, 4, 42, 180, 0, 21, 29] := bysAt_of (by decide +kernel)
theorem dX0_bearsAll_0 : decode cX0_bearsAll 0 = .ok (.iload_n 1, 1) := o_27 (bg_dX0_bearsAll_0 0 27 rfl)
theorem dX0_bearsAll_1 : decode cX0_bearsAll 1 = .ok (.bipush 10, 2) := o_16 (bg_dX0_bearsAll_0 1 16 rfl) (bg_dX0_bearsAll_0 2 10 rfl) (by decide +kernel)
theorem dX0_bearsAll_3 : decode cX0_bearsAll 3 = .ok (.imul, 1) := o_104 (bg_dX0_bearsAll_0 3 104 rfl)
theorem dX0_bearsAll_4 : decode cX0_bearsAll 4 = .ok (.istore_n 3, 1) := o_62 (bg_dX0_bearsAll_0 4 62 rfl)
theorem dX0_bearsAll_5 : decode cX0_bearsAll 5 = .ok (.aload_n 0, 1) := o_42 (bg_dX0_bearsAll_0 5 42 rfl)
theorem dX0_bearsAll_6 : decode cX0_bearsAll 6 = .ok (.getfield 21, 3) := o_180 (bg_dX0_bearsAll_0 6 180 rfl) (bg_dX0_bearsAll_0 7 0 rfl) (bg_dX0_bearsAll_0 8 21 rfl)
theorem dX0_bearsAll_9 : decode cX0_bearsAll 9 = .ok (.iload_n 3, 1) := o_29 (bg_dX0_bearsAll_0 9 29 rfl)
theorem dX0_bearsAll_10 : decode cX0_bearsAll 10 = .ok (.iconst 1, 1) := o_4 (bg_dX0_bearsAll_0 10 4 rfl)
theorem dX0_bearsAll_11 : decode cX0_bearsAll 11 = .ok (.iadd, 1) := o_96 (bg_dX0_bearsAll_0 11 96 rfl)
theorem dX0_bearsAll_12 : decode cX0_bearsAll 12 = .ok (.iaload, 1) := o_46 (bg_dX0_bearsAll_0 12 46 rfl)
theorem dX0_bearsAll_13 : decode cX0_bearsAll 13 = .ok (.istore 4, 2) := o_54 (bg_dX0_bearsAll_0 13 54 rfl) (bg_dX0_bearsAll_0 14 4 rfl)
theorem dX0_bearsAll_15 : decode cX0_bearsAll 15 = .ok (.aload_n 0, 1) := o_42 (bg_dX0_bearsAll_0 15 42 rfl)
theorem dX0_bearsAll_16 : decode cX0_bearsAll 16 = .ok (.getfield 21, 3) := o_180 (bg_dX0_bearsAll_0 16 180 rfl) (bg_dX0_bearsAll_0 17 0 rfl) (bg_dX0_bearsAll_0 18 21 rfl)
theorem dX0_bearsAll_19 : decode cX0_bearsAll 19 = .ok (.iload_n 3, 1) := o_29 (bg_dX0_bearsAll_0 19 29 rfl)
theorem bg_dX0_bearsAll_20 : bysAt cX0_bearsAll 20 [7, 96, 46, 54, 5, 21, 4, 4, 159, 0, 9, 21, 4, 5, 160, 0, 7, 4, 167, 0, 4, 3, 54, 6] := bysAt_of (by decide +kernel)
theorem dX0_bearsAll_20 : decode cX0_bearsAll 20 = .ok (.iconst 4, 1) := o_7 (bg_dX0_bearsAll_20 0 7 rfl)
theorem dX0_bearsAll_21 : decode cX0_bearsAll 21 = .ok (.iadd, 1) := o_96 (bg_dX0_bearsAll_20 1 96 rfl)
theorem dX0_bearsAll_22 : decode cX0_bearsAll 22 = .ok (.iaload, 1) := o_46 (bg_dX0_bearsAll_20 2 46 rfl)
theorem dX0_bearsAll_23 : decode cX0_bearsAll 23 = .ok (.istore 5, 2) := o_54 (bg_dX0_bearsAll_20 3 54 rfl) (bg_dX0_bearsAll_20 4 5 rfl)
theorem dX0_bearsAll_25 : decode cX0_bearsAll 25 = .ok (.iload 4, 2) := o_21 (bg_dX0_bearsAll_20 5 21 rfl) (bg_dX0_bearsAll_20 6 4 rfl)
theorem dX0_bearsAll_27 : decode cX0_bearsAll 27 = .ok (.iconst 1, 1) := o_4 (bg_dX0_bearsAll_20 7 4 rfl)
theorem dX0_bearsAll_28 : decode cX0_bearsAll 28 = .ok (.if_icmp .eq 9, 3) := o_159 (bg_dX0_bearsAll_20 8 159 rfl) (bg_dX0_bearsAll_20 9 0 rfl) (bg_dX0_bearsAll_20 10 9 rfl) (by decide +kernel)
theorem dX0_bearsAll_31 : decode cX0_bearsAll 31 = .ok (.iload 4, 2) := o_21 (bg_dX0_bearsAll_20 11 21 rfl) (bg_dX0_bearsAll_20 12 4 rfl)
theorem dX0_bearsAll_33 : decode cX0_bearsAll 33 = .ok (.iconst 2, 1) := o_5 (bg_dX0_bearsAll_20 13 5 rfl)
theorem dX0_bearsAll_34 : decode cX0_bearsAll 34 = .ok (.if_icmp .ne 7, 3) := o_160 (bg_dX0_bearsAll_20 14 160 rfl) (bg_dX0_bearsAll_20 15 0 rfl) (bg_dX0_bearsAll_20 16 7 rfl) (by decide +kernel)
theorem dX0_bearsAll_37 : decode cX0_bearsAll 37 = .ok (.iconst 1, 1) := o_4 (bg_dX0_bearsAll_20 17 4 rfl)
theorem dX0_bearsAll_38 : decode cX0_bearsAll 38 = .ok (.goto 4, 3) := o_167 (bg_dX0_bearsAll_20 18 167 rfl) (bg_dX0_bearsAll_20 19 0 rfl) (bg_dX0_bearsAll_20 20 4 rfl) (by decide +kernel)
theorem dX0_bearsAll_41 : decode cX0_bearsAll 41 = .ok (.iconst 0, 1) := o_3 (bg_dX0_bearsAll_20 21 3 rfl)
theorem dX0_bearsAll_42 : decode cX0_bearsAll 42 = .ok (.istore 6, 2) := o_54 (bg_dX0_bearsAll_20 22 54 rfl) (bg_dX0_bearsAll_20 23 6 rfl)
theorem bg_dX0_bearsAll_44 : bysAt cX0_bearsAll 44 [42, 29, 21, 6, 153, 0, 14, 21, 5, 21, 5, 16, 10, 108, 96, 167, 0, 5, 21, 5, 182, 0, 60, 54, 7, 28] := bysAt_of (by decide +kernel)
theorem dX0_bearsAll_44 : decode cX0_bearsAll 44 = .ok (.aload_n 0, 1) := o_42 (bg_dX0_bearsAll_44 0 42 rfl)
theorem dX0_bearsAll_45 : decode cX0_bearsAll 45 = .ok (.iload_n 3, 1) := o_29 (bg_dX0_bearsAll_44 1 29 rfl)
theorem dX0_bearsAll_46 : decode cX0_bearsAll 46 = .ok (.iload 6, 2) := o_21 (bg_dX0_bearsAll_44 2 21 rfl) (bg_dX0_bearsAll_44 3 6 rfl)
theorem dX0_bearsAll_48 : decode cX0_bearsAll 48 = .ok (.ifCond .eq 14, 3) := o_153 (bg_dX0_bearsAll_44 4 153 rfl) (bg_dX0_bearsAll_44 5 0 rfl) (bg_dX0_bearsAll_44 6 14 rfl) (by decide +kernel)
theorem dX0_bearsAll_51 : decode cX0_bearsAll 51 = .ok (.iload 5, 2) := o_21 (bg_dX0_bearsAll_44 7 21 rfl) (bg_dX0_bearsAll_44 8 5 rfl)
theorem dX0_bearsAll_53 : decode cX0_bearsAll 53 = .ok (.iload 5, 2) := o_21 (bg_dX0_bearsAll_44 9 21 rfl) (bg_dX0_bearsAll_44 10 5 rfl)
theorem dX0_bearsAll_55 : decode cX0_bearsAll 55 = .ok (.bipush 10, 2) := o_16 (bg_dX0_bearsAll_44 11 16 rfl) (bg_dX0_bearsAll_44 12 10 rfl) (by decide +kernel)
theorem dX0_bearsAll_57 : decode cX0_bearsAll 57 = .ok (.idiv, 1) := o_108 (bg_dX0_bearsAll_44 13 108 rfl)
theorem dX0_bearsAll_58 : decode cX0_bearsAll 58 = .ok (.iadd, 1) := o_96 (bg_dX0_bearsAll_44 14 96 rfl)
theorem dX0_bearsAll_59 : decode cX0_bearsAll 59 = .ok (.goto 5, 3) := o_167 (bg_dX0_bearsAll_44 15 167 rfl) (bg_dX0_bearsAll_44 16 0 rfl) (bg_dX0_bearsAll_44 17 5 rfl) (by decide +kernel)
theorem dX0_bearsAll_62 : decode cX0_bearsAll 62 = .ok (.iload 5, 2) := o_21 (bg_dX0_bearsAll_44 18 21 rfl) (bg_dX0_bearsAll_44 19 5 rfl)
theorem dX0_bearsAll_64 : decode cX0_bearsAll 64 = .ok (.invokevirtual 60, 3) := o_182 (bg_dX0_bearsAll_44 20 182 rfl) (bg_dX0_bearsAll_44 21 0 rfl) (bg_dX0_bearsAll_44 22 60 rfl)
theorem dX0_bearsAll_67 : decode cX0_bearsAll 67 = .ok (.istore 7, 2) := o_54 (bg_dX0_bearsAll_44 23 54 rfl) (bg_dX0_bearsAll_44 24 7 rfl)
theorem dX0_bearsAll_69 : decode cX0_bearsAll 69 = .ok (.iload_n 2, 1) := o_28 (bg_dX0_bearsAll_44 25 28 rfl)
theorem bg_dX0_bearsAll_70 : bysAt cX0_bearsAll 70 [153, 0, 29, 42, 180, 0, 21, 29, 16, 8, 96, 46, 154, 0, 17, 21, 7, 42, 180, 0, 21, 29, 8, 96] := bysAt_of (by decide +kernel)
theorem dX0_bearsAll_70 : decode cX0_bearsAll 70 = .ok (.ifCond .eq 29, 3) := o_153 (bg_dX0_bearsAll_70 0 153 rfl) (bg_dX0_bearsAll_70 1 0 rfl) (bg_dX0_bearsAll_70 2 29 rfl) (by decide +kernel)
theorem dX0_bearsAll_73 : decode cX0_bearsAll 73 = .ok (.aload_n 0, 1) := o_42 (bg_dX0_bearsAll_70 3 42 rfl)
theorem dX0_bearsAll_74 : decode cX0_bearsAll 74 = .ok (.getfield 21, 3) := o_180 (bg_dX0_bearsAll_70 4 180 rfl) (bg_dX0_bearsAll_70 5 0 rfl) (bg_dX0_bearsAll_70 6 21 rfl)
theorem dX0_bearsAll_77 : decode cX0_bearsAll 77 = .ok (.iload_n 3, 1) := o_29 (bg_dX0_bearsAll_70 7 29 rfl)
theorem dX0_bearsAll_78 : decode cX0_bearsAll 78 = .ok (.bipush 8, 2) := o_16 (bg_dX0_bearsAll_70 8 16 rfl) (bg_dX0_bearsAll_70 9 8 rfl) (by decide +kernel)
theorem dX0_bearsAll_80 : decode cX0_bearsAll 80 = .ok (.iadd, 1) := o_96 (bg_dX0_bearsAll_70 10 96 rfl)
theorem dX0_bearsAll_81 : decode cX0_bearsAll 81 = .ok (.iaload, 1) := o_46 (bg_dX0_bearsAll_70 11 46 rfl)
theorem dX0_bearsAll_82 : decode cX0_bearsAll 82 = .ok (.ifCond .ne 17, 3) := o_154 (bg_dX0_bearsAll_70 12 154 rfl) (bg_dX0_bearsAll_70 13 0 rfl) (bg_dX0_bearsAll_70 14 17 rfl) (by decide +kernel)
theorem dX0_bearsAll_85 : decode cX0_bearsAll 85 = .ok (.iload 7, 2) := o_21 (bg_dX0_bearsAll_70 15 21 rfl) (bg_dX0_bearsAll_70 16 7 rfl)
theorem dX0_bearsAll_87 : decode cX0_bearsAll 87 = .ok (.aload_n 0, 1) := o_42 (bg_dX0_bearsAll_70 17 42 rfl)
theorem dX0_bearsAll_88 : decode cX0_bearsAll 88 = .ok (.getfield 21, 3) := o_180 (bg_dX0_bearsAll_70 18 180 rfl) (bg_dX0_bearsAll_70 19 0 rfl) (bg_dX0_bearsAll_70 20 21 rfl)
theorem dX0_bearsAll_91 : decode cX0_bearsAll 91 = .ok (.iload_n 3, 1) := o_29 (bg_dX0_bearsAll_70 21 29 rfl)
theorem dX0_bearsAll_92 : decode cX0_bearsAll 92 = .ok (.iconst 5, 1) := o_8 (bg_dX0_bearsAll_70 22 8 rfl)
theorem dX0_bearsAll_93 : decode cX0_bearsAll 93 = .ok (.iadd, 1) := o_96 (bg_dX0_bearsAll_70 23 96 rfl)
theorem bg_dX0_bearsAll_94 : bysAt cX0_bearsAll 94 [46, 96, 167, 0, 5, 21, 7, 172] := bysAt_of (by decide +kernel)
theorem dX0_bearsAll_94 : decode cX0_bearsAll 94 = .ok (.iaload, 1) := o_46 (bg_dX0_bearsAll_94 0 46 rfl)
theorem dX0_bearsAll_95 : decode cX0_bearsAll 95 = .ok (.iadd, 1) := o_96 (bg_dX0_bearsAll_94 1 96 rfl)
theorem dX0_bearsAll_96 : decode cX0_bearsAll 96 = .ok (.goto 5, 3) := o_167 (bg_dX0_bearsAll_94 2 167 rfl) (bg_dX0_bearsAll_94 3 0 rfl) (bg_dX0_bearsAll_94 4 5 rfl) (by decide +kernel)
theorem dX0_bearsAll_99 : decode cX0_bearsAll 99 = .ok (.iload 7, 2) := o_21 (bg_dX0_bearsAll_94 5 21 rfl) (bg_dX0_bearsAll_94 6 7 rfl)
theorem dX0_bearsAll_101 : decode cX0_bearsAll 101 = .ok (.ireturn, 1) := o_172 (bg_dX0_bearsAll_94 7 172 rfl)
theorem bg_dX0_bearsAxle_0 : bysAt cX0_bearsAxle 0 [27, 16, 10, 104, 61, 42, 180, 0, 21, 28, 6, 96, 46, 62, 42, 28, 42] := bysAt_of (by decide +kernel)
theorem dX0_bearsAxle_0 : decode cX0_bearsAxle 0 = .ok (.iload_n 1, 1) := o_27 (bg_dX0_bearsAxle_0 0 27 rfl)
theorem dX0_bearsAxle_1 : decode cX0_bearsAxle 1 = .ok (.bipush 10, 2) := o_16 (bg_dX0_bearsAxle_0 1 16 rfl) (bg_dX0_bearsAxle_0 2 10 rfl) (by decide +kernel)
theorem dX0_bearsAxle_3 : decode cX0_bearsAxle 3 = .ok (.imul, 1) := o_104 (bg_dX0_bearsAxle_0 3 104 rfl)
theorem dX0_bearsAxle_4 : decode cX0_bearsAxle 4 = .ok (.istore_n 2, 1) := o_61 (bg_dX0_bearsAxle_0 4 61 rfl)
theorem dX0_bearsAxle_5 : decode cX0_bearsAxle 5 = .ok (.aload_n 0, 1) := o_42 (bg_dX0_bearsAxle_0 5 42 rfl)
theorem dX0_bearsAxle_6 : decode cX0_bearsAxle 6 = .ok (.getfield 21, 3) := o_180 (bg_dX0_bearsAxle_0 6 180 rfl) (bg_dX0_bearsAxle_0 7 0 rfl) (bg_dX0_bearsAxle_0 8 21 rfl)
theorem dX0_bearsAxle_9 : decode cX0_bearsAxle 9 = .ok (.iload_n 2, 1) := o_28 (bg_dX0_bearsAxle_0 9 28 rfl)
theorem dX0_bearsAxle_10 : decode cX0_bearsAxle 10 = .ok (.iconst 3, 1) := o_6 (bg_dX0_bearsAxle_0 10 6 rfl)
theorem dX0_bearsAxle_11 : decode cX0_bearsAxle 11 = .ok (.iadd, 1) := o_96 (bg_dX0_bearsAxle_0 11 96 rfl)
theorem dX0_bearsAxle_12 : decode cX0_bearsAxle 12 = .ok (.iaload, 1) := o_46 (bg_dX0_bearsAxle_0 12 46 rfl)
theorem dX0_bearsAxle_13 : decode cX0_bearsAxle 13 = .ok (.istore_n 3, 1) := o_62 (bg_dX0_bearsAxle_0 13 62 rfl)
theorem dX0_bearsAxle_14 : decode cX0_bearsAxle 14 = .ok (.aload_n 0, 1) := o_42 (bg_dX0_bearsAxle_0 14 42 rfl)
theorem dX0_bearsAxle_15 : decode cX0_bearsAxle 15 = .ok (.iload_n 2, 1) := o_28 (bg_dX0_bearsAxle_0 15 28 rfl)
theorem dX0_bearsAxle_16 : decode cX0_bearsAxle 16 = .ok (.aload_n 0, 1) := o_42 (bg_dX0_bearsAxle_0 16 42 rfl)
theorem bg_dX0_bearsAxle_17 : bysAt cX0_bearsAxle 17 [180, 0, 21, 28, 4, 96, 46, 5, 160, 0, 9, 29, 8, 96, 167, 0, 4, 29, 182, 0, 60, 172] := bysAt_of (by decide +kernel)
theorem dX0_bearsAxle_17 : decode cX0_bearsAxle 17 = .ok (.getfield 21, 3) := o_180 (bg_dX0_bearsAxle_17 0 180 rfl) (bg_dX0_bearsAxle_17 1 0 rfl) (bg_dX0_bearsAxle_17 2 21 rfl)
theorem dX0_bearsAxle_20 : decode cX0_bearsAxle 20 = .ok (.iload_n 2, 1) := o_28 (bg_dX0_bearsAxle_17 3 28 rfl)
theorem dX0_bearsAxle_21 : decode cX0_bearsAxle 21 = .ok (.iconst 1, 1) := o_4 (bg_dX0_bearsAxle_17 4 4 rfl)
theorem dX0_bearsAxle_22 : decode cX0_bearsAxle 22 = .ok (.iadd, 1) := o_96 (bg_dX0_bearsAxle_17 5 96 rfl)
theorem dX0_bearsAxle_23 : decode cX0_bearsAxle 23 = .ok (.iaload, 1) := o_46 (bg_dX0_bearsAxle_17 6 46 rfl)
theorem dX0_bearsAxle_24 : decode cX0_bearsAxle 24 = .ok (.iconst 2, 1) := o_5 (bg_dX0_bearsAxle_17 7 5 rfl)
theorem dX0_bearsAxle_25 : decode cX0_bearsAxle 25 = .ok (.if_icmp .ne 9, 3) := o_160 (bg_dX0_bearsAxle_17 8 160 rfl) (bg_dX0_bearsAxle_17 9 0 rfl) (bg_dX0_bearsAxle_17 10 9 rfl) (by decide +kernel)
theorem dX0_bearsAxle_28 : decode cX0_bearsAxle 28 = .ok (.iload_n 3, 1) := o_29 (bg_dX0_bearsAxle_17 11 29 rfl)
theorem dX0_bearsAxle_29 : decode cX0_bearsAxle 29 = .ok (.iconst 5, 1) := o_8 (bg_dX0_bearsAxle_17 12 8 rfl)
theorem dX0_bearsAxle_30 : decode cX0_bearsAxle 30 = .ok (.iadd, 1) := o_96 (bg_dX0_bearsAxle_17 13 96 rfl)
theorem dX0_bearsAxle_31 : decode cX0_bearsAxle 31 = .ok (.goto 4, 3) := o_167 (bg_dX0_bearsAxle_17 14 167 rfl) (bg_dX0_bearsAxle_17 15 0 rfl) (bg_dX0_bearsAxle_17 16 4 rfl) (by decide +kernel)
theorem dX0_bearsAxle_34 : decode cX0_bearsAxle 34 = .ok (.iload_n 3, 1) := o_29 (bg_dX0_bearsAxle_17 17 29 rfl)
theorem dX0_bearsAxle_35 : decode cX0_bearsAxle 35 = .ok (.invokevirtual 60, 3) := o_182 (bg_dX0_bearsAxle_17 18 182 rfl) (bg_dX0_bearsAxle_17 19 0 rfl) (bg_dX0_bearsAxle_17 20 60 rfl)
theorem dX0_bearsAxle_38 : decode cX0_bearsAxle 38 = .ok (.ireturn, 1) := o_172 (bg_dX0_bearsAxle_17 21 172 rfl)
theorem bg_dX0_believed_0 : bysAt cX0_believed 0 [42, 180, 0, 21, 27, 4, 96, 46, 62, 42, 180, 0, 21, 27, 16, 8, 96, 46, 4] := bysAt_of (by decide +kernel)
theorem dX0_believed_0 : decode cX0_believed 0 = .ok (.aload_n 0, 1) := o_42 (bg_dX0_believed_0 0 42 rfl)
theorem dX0_believed_1 : decode cX0_believed 1 = .ok (.getfield 21, 3) := o_180 (bg_dX0_believed_0 1 180 rfl) (bg_dX0_believed_0 2 0 rfl) (bg_dX0_believed_0 3 21 rfl)
theorem dX0_believed_4 : decode cX0_believed 4 = .ok (.iload_n 1, 1) := o_27 (bg_dX0_believed_0 4 27 rfl)
theorem dX0_believed_5 : decode cX0_believed 5 = .ok (.iconst 1, 1) := o_4 (bg_dX0_believed_0 5 4 rfl)
theorem dX0_believed_6 : decode cX0_believed 6 = .ok (.iadd, 1) := o_96 (bg_dX0_believed_0 6 96 rfl)
theorem dX0_believed_7 : decode cX0_believed 7 = .ok (.iaload, 1) := o_46 (bg_dX0_believed_0 7 46 rfl)
theorem dX0_believed_8 : decode cX0_believed 8 = .ok (.istore_n 3, 1) := o_62 (bg_dX0_believed_0 8 62 rfl)
theorem dX0_believed_9 : decode cX0_believed 9 = .ok (.aload_n 0, 1) := o_42 (bg_dX0_believed_0 9 42 rfl)
theorem dX0_believed_10 : decode cX0_believed 10 = .ok (.getfield 21, 3) := o_180 (bg_dX0_believed_0 10 180 rfl) (bg_dX0_believed_0 11 0 rfl) (bg_dX0_believed_0 12 21 rfl)
theorem dX0_believed_13 : decode cX0_believed 13 = .ok (.iload_n 1, 1) := o_27 (bg_dX0_believed_0 13 27 rfl)
theorem dX0_believed_14 : decode cX0_believed 14 = .ok (.bipush 8, 2) := o_16 (bg_dX0_believed_0 14 16 rfl) (bg_dX0_believed_0 15 8 rfl) (by decide +kernel)
theorem dX0_believed_16 : decode cX0_believed 16 = .ok (.iadd, 1) := o_96 (bg_dX0_believed_0 16 96 rfl)
theorem dX0_believed_17 : decode cX0_believed 17 = .ok (.iaload, 1) := o_46 (bg_dX0_believed_0 17 46 rfl)
theorem dX0_believed_18 : decode cX0_believed 18 = .ok (.iconst 1, 1) := o_4 (bg_dX0_believed_0 18 4 rfl)
theorem bg_dX0_believed_19 : bysAt cX0_believed 19 [159, 0, 17, 29, 8, 160, 0, 14, 42, 180, 0, 30, 5, 46, 154, 0, 5, 3, 172, 29, 7, 159, 0, 8] := bysAt_of (by decide +kernel)
theorem dX0_believed_19 : decode cX0_believed 19 = .ok (.if_icmp .eq 17, 3) := o_159 (bg_dX0_believed_19 0 159 rfl) (bg_dX0_believed_19 1 0 rfl) (bg_dX0_believed_19 2 17 rfl) (by decide +kernel)
theorem dX0_believed_22 : decode cX0_believed 22 = .ok (.iload_n 3, 1) := o_29 (bg_dX0_believed_19 3 29 rfl)
theorem dX0_believed_23 : decode cX0_believed 23 = .ok (.iconst 5, 1) := o_8 (bg_dX0_believed_19 4 8 rfl)
theorem dX0_believed_24 : decode cX0_believed 24 = .ok (.if_icmp .ne 14, 3) := o_160 (bg_dX0_believed_19 5 160 rfl) (bg_dX0_believed_19 6 0 rfl) (bg_dX0_believed_19 7 14 rfl) (by decide +kernel)
theorem dX0_believed_27 : decode cX0_believed 27 = .ok (.aload_n 0, 1) := o_42 (bg_dX0_believed_19 8 42 rfl)
theorem dX0_believed_28 : decode cX0_believed 28 = .ok (.getfield 30, 3) := o_180 (bg_dX0_believed_19 9 180 rfl) (bg_dX0_believed_19 10 0 rfl) (bg_dX0_believed_19 11 30 rfl)
theorem dX0_believed_31 : decode cX0_believed 31 = .ok (.iconst 2, 1) := o_5 (bg_dX0_believed_19 12 5 rfl)
theorem dX0_believed_32 : decode cX0_believed 32 = .ok (.iaload, 1) := o_46 (bg_dX0_believed_19 13 46 rfl)
theorem dX0_believed_33 : decode cX0_believed 33 = .ok (.ifCond .ne 5, 3) := o_154 (bg_dX0_believed_19 14 154 rfl) (bg_dX0_believed_19 15 0 rfl) (bg_dX0_believed_19 16 5 rfl) (by decide +kernel)
theorem dX0_believed_36 : decode cX0_believed 36 = .ok (.iconst 0, 1) := o_3 (bg_dX0_believed_19 17 3 rfl)
theorem dX0_believed_37 : decode cX0_believed 37 = .ok (.ireturn, 1) := o_172 (bg_dX0_believed_19 18 172 rfl)
theorem dX0_believed_38 : decode cX0_believed 38 = .ok (.iload_n 3, 1) := o_29 (bg_dX0_believed_19 19 29 rfl)
theorem dX0_believed_39 : decode cX0_believed 39 = .ok (.iconst 4, 1) := o_7 (bg_dX0_believed_19 20 7 rfl)
theorem dX0_believed_40 : decode cX0_believed 40 = .ok (.if_icmp .eq 8, 3) := o_159 (bg_dX0_believed_19 21 159 rfl) (bg_dX0_believed_19 22 0 rfl) (bg_dX0_believed_19 23 8 rfl) (by decide +kernel)
theorem bg_dX0_believed_43 : bysAt cX0_believed 43 [29, 8, 160, 0, 7, 4, 167, 0, 4, 3, 54, 4, 21, 4, 153, 0, 21, 42, 180, 0, 21, 27, 16, 9, 96] := bysAt_of (by decide +kernel)
theorem dX0_believed_43 : decode cX0_believed 43 = .ok (.iload_n 3, 1) := o_29 (bg_dX0_believed_43 0 29 rfl)
theorem dX0_believed_44 : decode cX0_believed 44 = .ok (.iconst 5, 1) := o_8 (bg_dX0_believed_43 1 8 rfl)
theorem dX0_believed_45 : decode cX0_believed 45 = .ok (.if_icmp .ne 7, 3) := o_160 (bg_dX0_believed_43 2 160 rfl) (bg_dX0_believed_43 3 0 rfl) (bg_dX0_believed_43 4 7 rfl) (by decide +kernel)
theorem dX0_believed_48 : decode cX0_believed 48 = .ok (.iconst 1, 1) := o_4 (bg_dX0_believed_43 5 4 rfl)
theorem dX0_believed_49 : decode cX0_believed 49 = .ok (.goto 4, 3) := o_167 (bg_dX0_believed_43 6 167 rfl) (bg_dX0_believed_43 7 0 rfl) (bg_dX0_believed_43 8 4 rfl) (by decide +kernel)
theorem dX0_believed_52 : decode cX0_believed 52 = .ok (.iconst 0, 1) := o_3 (bg_dX0_believed_43 9 3 rfl)
theorem dX0_believed_53 : decode cX0_believed 53 = .ok (.istore 4, 2) := o_54 (bg_dX0_believed_43 10 54 rfl) (bg_dX0_believed_43 11 4 rfl)
theorem dX0_believed_55 : decode cX0_believed 55 = .ok (.iload 4, 2) := o_21 (bg_dX0_believed_43 12 21 rfl) (bg_dX0_believed_43 13 4 rfl)
theorem dX0_believed_57 : decode cX0_believed 57 = .ok (.ifCond .eq 21, 3) := o_153 (bg_dX0_believed_43 14 153 rfl) (bg_dX0_believed_43 15 0 rfl) (bg_dX0_believed_43 16 21 rfl) (by decide +kernel)
theorem dX0_believed_60 : decode cX0_believed 60 = .ok (.aload_n 0, 1) := o_42 (bg_dX0_believed_43 17 42 rfl)
theorem dX0_believed_61 : decode cX0_believed 61 = .ok (.getfield 21, 3) := o_180 (bg_dX0_believed_43 18 180 rfl) (bg_dX0_believed_43 19 0 rfl) (bg_dX0_believed_43 20 21 rfl)
theorem dX0_believed_64 : decode cX0_believed 64 = .ok (.iload_n 1, 1) := o_27 (bg_dX0_believed_43 21 27 rfl)
theorem dX0_believed_65 : decode cX0_believed 65 = .ok (.bipush 9, 2) := o_16 (bg_dX0_believed_43 22 16 rfl) (bg_dX0_believed_43 23 9 rfl) (by decide +kernel)
theorem dX0_believed_67 : decode cX0_believed 67 = .ok (.iadd, 1) := o_96 (bg_dX0_believed_43 24 96 rfl)
theorem bg_dX0_believed_68 : bysAt cX0_believed 68 [46, 154, 0, 9, 28, 5, 108, 167, 0, 4, 28, 172] := bysAt_of (by decide +kernel)
theorem dX0_believed_68 : decode cX0_believed 68 = .ok (.iaload, 1) := o_46 (bg_dX0_believed_68 0 46 rfl)
theorem dX0_believed_69 : decode cX0_believed 69 = .ok (.ifCond .ne 9, 3) := o_154 (bg_dX0_believed_68 1 154 rfl) (bg_dX0_believed_68 2 0 rfl) (bg_dX0_believed_68 3 9 rfl) (by decide +kernel)
theorem dX0_believed_72 : decode cX0_believed 72 = .ok (.iload_n 2, 1) := o_28 (bg_dX0_believed_68 4 28 rfl)
theorem dX0_believed_73 : decode cX0_believed 73 = .ok (.iconst 2, 1) := o_5 (bg_dX0_believed_68 5 5 rfl)
theorem dX0_believed_74 : decode cX0_believed 74 = .ok (.idiv, 1) := o_108 (bg_dX0_believed_68 6 108 rfl)
theorem dX0_believed_75 : decode cX0_believed 75 = .ok (.goto 4, 3) := o_167 (bg_dX0_believed_68 7 167 rfl) (bg_dX0_believed_68 8 0 rfl) (bg_dX0_believed_68 9 4 rfl) (by decide +kernel)
theorem dX0_believed_78 : decode cX0_believed 78 = .ok (.iload_n 2, 1) := o_28 (bg_dX0_believed_68 10 28 rfl)
theorem dX0_believed_79 : decode cX0_believed 79 = .ok (.ireturn, 1) := o_172 (bg_dX0_believed_68 11 172 rfl)
theorem bg_dX0_countBridges_0 : bysAt cX0_countBridges 0 [3, 61, 3, 62, 29, 42, 180, 0, 13, 4, 46, 162, 0, 18, 28, 42, 29, 27] := bysAt_of (by decide +kernel)
theorem dX0_countBridges_0 : decode cX0_countBridges 0 = .ok (.iconst 0, 1) := o_3 (bg_dX0_countBridges_0 0 3 rfl)
theorem dX0_countBridges_1 : decode cX0_countBridges 1 = .ok (.istore_n 2, 1) := o_61 (bg_dX0_countBridges_0 1 61 rfl)
theorem dX0_countBridges_2 : decode cX0_countBridges 2 = .ok (.iconst 0, 1) := o_3 (bg_dX0_countBridges_0 2 3 rfl)
theorem dX0_countBridges_3 : decode cX0_countBridges 3 = .ok (.istore_n 3, 1) := o_62 (bg_dX0_countBridges_0 3 62 rfl)
theorem dX0_countBridges_4 : decode cX0_countBridges 4 = .ok (.iload_n 3, 1) := o_29 (bg_dX0_countBridges_0 4 29 rfl)
theorem dX0_countBridges_5 : decode cX0_countBridges 5 = .ok (.aload_n 0, 1) := o_42 (bg_dX0_countBridges_0 5 42 rfl)
theorem dX0_countBridges_6 : decode cX0_countBridges 6 = .ok (.getfield 13, 3) := o_180 (bg_dX0_countBridges_0 6 180 rfl) (bg_dX0_countBridges_0 7 0 rfl) (bg_dX0_countBridges_0 8 13 rfl)
theorem dX0_countBridges_9 : decode cX0_countBridges 9 = .ok (.iconst 1, 1) := o_4 (bg_dX0_countBridges_0 9 4 rfl)
theorem dX0_countBridges_10 : decode cX0_countBridges 10 = .ok (.iaload, 1) := o_46 (bg_dX0_countBridges_0 10 46 rfl)
theorem dX0_countBridges_11 : decode cX0_countBridges 11 = .ok (.if_icmp .ge 18, 3) := o_162 (bg_dX0_countBridges_0 11 162 rfl) (bg_dX0_countBridges_0 12 0 rfl) (bg_dX0_countBridges_0 13 18 rfl) (by decide +kernel)
theorem dX0_countBridges_14 : decode cX0_countBridges 14 = .ok (.iload_n 2, 1) := o_28 (bg_dX0_countBridges_0 14 28 rfl)
theorem dX0_countBridges_15 : decode cX0_countBridges 15 = .ok (.aload_n 0, 1) := o_42 (bg_dX0_countBridges_0 15 42 rfl)
theorem dX0_countBridges_16 : decode cX0_countBridges 16 = .ok (.iload_n 3, 1) := o_29 (bg_dX0_countBridges_0 16 29 rfl)
theorem dX0_countBridges_17 : decode cX0_countBridges 17 = .ok (.iload_n 1, 1) := o_27 (bg_dX0_countBridges_0 17 27 rfl)
theorem bg_dX0_countBridges_18 : bysAt cX0_countBridges 18 [182, 0, 50, 96, 61, 132, 3, 1, 167, 255, 234, 28, 172] := bysAt_of (by decide +kernel)
theorem dX0_countBridges_18 : decode cX0_countBridges 18 = .ok (.invokevirtual 50, 3) := o_182 (bg_dX0_countBridges_18 0 182 rfl) (bg_dX0_countBridges_18 1 0 rfl) (bg_dX0_countBridges_18 2 50 rfl)
theorem dX0_countBridges_21 : decode cX0_countBridges 21 = .ok (.iadd, 1) := o_96 (bg_dX0_countBridges_18 3 96 rfl)
theorem dX0_countBridges_22 : decode cX0_countBridges 22 = .ok (.istore_n 2, 1) := o_61 (bg_dX0_countBridges_18 4 61 rfl)
theorem dX0_countBridges_26 : decode cX0_countBridges 26 = .ok (.goto (-22), 3) := o_167 (bg_dX0_countBridges_18 8 167 rfl) (bg_dX0_countBridges_18 9 255 rfl) (bg_dX0_countBridges_18 10 234 rfl) (by decide +kernel)
theorem dX0_countBridges_29 : decode cX0_countBridges 29 = .ok (.iload_n 2, 1) := o_28 (bg_dX0_countBridges_18 11 28 rfl)
theorem dX0_countBridges_30 : decode cX0_countBridges 30 = .ok (.ireturn, 1) := o_172 (bg_dX0_countBridges_18 12 172 rfl)
theorem bg_dX0_isPropped_0 : bysAt cX0_isPropped 0 [42, 27, 16, 7, 182, 0, 50, 4, 160, 0, 7, 4, 167, 0, 4, 3, 172] := bysAt_of (by decide +kernel)
theorem dX0_isPropped_0 : decode cX0_isPropped 0 = .ok (.aload_n 0, 1) := o_42 (bg_dX0_isPropped_0 0 42 rfl)
theorem dX0_isPropped_1 : decode cX0_isPropped 1 = .ok (.iload_n 1, 1) := o_27 (bg_dX0_isPropped_0 1 27 rfl)
theorem dX0_isPropped_2 : decode cX0_isPropped 2 = .ok (.bipush 7, 2) := o_16 (bg_dX0_isPropped_0 2 16 rfl) (bg_dX0_isPropped_0 3 7 rfl) (by decide +kernel)
theorem dX0_isPropped_4 : decode cX0_isPropped 4 = .ok (.invokevirtual 50, 3) := o_182 (bg_dX0_isPropped_0 4 182 rfl) (bg_dX0_isPropped_0 5 0 rfl) (bg_dX0_isPropped_0 6 50 rfl)
theorem dX0_isPropped_7 : decode cX0_isPropped 7 = .ok (.iconst 1, 1) := o_4 (bg_dX0_isPropped_0 7 4 rfl)
theorem dX0_isPropped_8 : decode cX0_isPropped 8 = .ok (.if_icmp .ne 7, 3) := o_160 (bg_dX0_isPropped_0 8 160 rfl) (bg_dX0_isPropped_0 9 0 rfl) (bg_dX0_isPropped_0 10 7 rfl) (by decide +kernel)
theorem dX0_isPropped_11 : decode cX0_isPropped 11 = .ok (.iconst 1, 1) := o_4 (bg_dX0_isPropped_0 11 4 rfl)
theorem dX0_isPropped_12 : decode cX0_isPropped 12 = .ok (.goto 4, 3) := o_167 (bg_dX0_isPropped_0 12 167 rfl) (bg_dX0_isPropped_0 13 0 rfl) (bg_dX0_isPropped_0 14 4 rfl) (by decide +kernel)
theorem dX0_isPropped_15 : decode cX0_isPropped 15 = .ok (.iconst 0, 1) := o_3 (bg_dX0_isPropped_0 15 3 rfl)
theorem dX0_isPropped_16 : decode cX0_isPropped 16 = .ok (.ireturn, 1) := o_172 (bg_dX0_isPropped_0 16 172 rfl)
theorem bg_dX0_mayBeTakenFor_0 : bysAt cX0_mayBeTakenFor 0 [178, 0, 57, 42, 27, 4, 182, 0, 50, 46, 28, 122, 4, 126, 4, 160, 0, 7, 4, 167, 0, 4] := bysAt_of (by decide +kernel)
theorem dX0_mayBeTakenFor_0 : decode cX0_mayBeTakenFor 0 = .ok (.getstatic 57, 3) := o_178 (bg_dX0_mayBeTakenFor_0 0 178 rfl) (bg_dX0_mayBeTakenFor_0 1 0 rfl) (bg_dX0_mayBeTakenFor_0 2 57 rfl)
theorem dX0_mayBeTakenFor_3 : decode cX0_mayBeTakenFor 3 = .ok (.aload_n 0, 1) := o_42 (bg_dX0_mayBeTakenFor_0 3 42 rfl)
theorem dX0_mayBeTakenFor_4 : decode cX0_mayBeTakenFor 4 = .ok (.iload_n 1, 1) := o_27 (bg_dX0_mayBeTakenFor_0 4 27 rfl)
theorem dX0_mayBeTakenFor_5 : decode cX0_mayBeTakenFor 5 = .ok (.iconst 1, 1) := o_4 (bg_dX0_mayBeTakenFor_0 5 4 rfl)
theorem dX0_mayBeTakenFor_6 : decode cX0_mayBeTakenFor 6 = .ok (.invokevirtual 50, 3) := o_182 (bg_dX0_mayBeTakenFor_0 6 182 rfl) (bg_dX0_mayBeTakenFor_0 7 0 rfl) (bg_dX0_mayBeTakenFor_0 8 50 rfl)
theorem dX0_mayBeTakenFor_9 : decode cX0_mayBeTakenFor 9 = .ok (.iaload, 1) := o_46 (bg_dX0_mayBeTakenFor_0 9 46 rfl)
theorem dX0_mayBeTakenFor_10 : decode cX0_mayBeTakenFor 10 = .ok (.iload_n 2, 1) := o_28 (bg_dX0_mayBeTakenFor_0 10 28 rfl)
theorem dX0_mayBeTakenFor_11 : decode cX0_mayBeTakenFor 11 = .ok (.ishr, 1) := o_122 (bg_dX0_mayBeTakenFor_0 11 122 rfl)
theorem dX0_mayBeTakenFor_12 : decode cX0_mayBeTakenFor 12 = .ok (.iconst 1, 1) := o_4 (bg_dX0_mayBeTakenFor_0 12 4 rfl)
theorem dX0_mayBeTakenFor_13 : decode cX0_mayBeTakenFor 13 = .ok (.iand, 1) := o_126 (bg_dX0_mayBeTakenFor_0 13 126 rfl)
theorem dX0_mayBeTakenFor_14 : decode cX0_mayBeTakenFor 14 = .ok (.iconst 1, 1) := o_4 (bg_dX0_mayBeTakenFor_0 14 4 rfl)
theorem dX0_mayBeTakenFor_15 : decode cX0_mayBeTakenFor 15 = .ok (.if_icmp .ne 7, 3) := o_160 (bg_dX0_mayBeTakenFor_0 15 160 rfl) (bg_dX0_mayBeTakenFor_0 16 0 rfl) (bg_dX0_mayBeTakenFor_0 17 7 rfl) (by decide +kernel)
theorem dX0_mayBeTakenFor_18 : decode cX0_mayBeTakenFor 18 = .ok (.iconst 1, 1) := o_4 (bg_dX0_mayBeTakenFor_0 18 4 rfl)
theorem dX0_mayBeTakenFor_19 : decode cX0_mayBeTakenFor 19 = .ok (.goto 4, 3) := o_167 (bg_dX0_mayBeTakenFor_0 19 167 rfl) (bg_dX0_mayBeTakenFor_0 20 0 rfl) (bg_dX0_mayBeTakenFor_0 21 4 rfl) (by decide +kernel)
theorem bg_dX0_mayBeTakenFor_22 : bysAt cX0_mayBeTakenFor 22 [3, 172] := bysAt_of (by decide +kernel)
theorem dX0_mayBeTakenFor_22 : decode cX0_mayBeTakenFor 22 = .ok (.iconst 0, 1) := o_3 (bg_dX0_mayBeTakenFor_22 0 3 rfl)
theorem dX0_mayBeTakenFor_23 : decode cX0_mayBeTakenFor 23 = .ok (.ireturn, 1) := o_172 (bg_dX0_mayBeTakenFor_22 1 172 rfl)
theorem bg_dX0_putBridgeColumn_0 : bysAt cX0_putBridgeColumn 0 [42, 180, 0, 21, 27, 16, 10, 104, 28, 96, 29, 79, 177] := bysAt_of (by decide +kernel)
theorem dX0_putBridgeColumn_0 : decode cX0_putBridgeColumn 0 = .ok (.aload_n 0, 1) := o_42 (bg_dX0_putBridgeColumn_0 0 42 rfl)
theorem dX0_putBridgeColumn_1 : decode cX0_putBridgeColumn 1 = .ok (.getfield 21, 3) := o_180 (bg_dX0_putBridgeColumn_0 1 180 rfl) (bg_dX0_putBridgeColumn_0 2 0 rfl) (bg_dX0_putBridgeColumn_0 3 21 rfl)
theorem dX0_putBridgeColumn_4 : decode cX0_putBridgeColumn 4 = .ok (.iload_n 1, 1) := o_27 (bg_dX0_putBridgeColumn_0 4 27 rfl)
theorem dX0_putBridgeColumn_5 : decode cX0_putBridgeColumn 5 = .ok (.bipush 10, 2) := o_16 (bg_dX0_putBridgeColumn_0 5 16 rfl) (bg_dX0_putBridgeColumn_0 6 10 rfl) (by decide +kernel)
theorem dX0_putBridgeColumn_7 : decode cX0_putBridgeColumn 7 = .ok (.imul, 1) := o_104 (bg_dX0_putBridgeColumn_0 7 104 rfl)
theorem dX0_putBridgeColumn_8 : decode cX0_putBridgeColumn 8 = .ok (.iload_n 2, 1) := o_28 (bg_dX0_putBridgeColumn_0 8 28 rfl)
theorem dX0_putBridgeColumn_9 : decode cX0_putBridgeColumn 9 = .ok (.iadd, 1) := o_96 (bg_dX0_putBridgeColumn_0 9 96 rfl)
theorem dX0_putBridgeColumn_10 : decode cX0_putBridgeColumn 10 = .ok (.iload_n 3, 1) := o_29 (bg_dX0_putBridgeColumn_0 10 29 rfl)
theorem dX0_putBridgeColumn_11 : decode cX0_putBridgeColumn 11 = .ok (.iastore, 1) := o_79 (bg_dX0_putBridgeColumn_0 11 79 rfl)
theorem dX0_putBridgeColumn_12 : decode cX0_putBridgeColumn 12 = .ok (.return_, 1) := o_177 (bg_dX0_putBridgeColumn_0 12 177 rfl)
theorem bg_dX0_putProp_0 : bysAt cX0_putProp 0 [42, 27, 8, 28, 182, 0, 46, 42, 27, 16, 6, 29, 182, 0, 46, 177] := bysAt_of (by decide +kernel)
theorem dX0_putProp_0 : decode cX0_putProp 0 = .ok (.aload_n 0, 1) := o_42 (bg_dX0_putProp_0 0 42 rfl)
theorem dX0_putProp_1 : decode cX0_putProp 1 = .ok (.iload_n 1, 1) := o_27 (bg_dX0_putProp_0 1 27 rfl)
theorem dX0_putProp_2 : decode cX0_putProp 2 = .ok (.iconst 5, 1) := o_8 (bg_dX0_putProp_0 2 8 rfl)
theorem dX0_putProp_3 : decode cX0_putProp 3 = .ok (.iload_n 2, 1) := o_28 (bg_dX0_putProp_0 3 28 rfl)
theorem dX0_putProp_4 : decode cX0_putProp 4 = .ok (.invokevirtual 46, 3) := o_182 (bg_dX0_putProp_0 4 182 rfl) (bg_dX0_putProp_0 5 0 rfl) (bg_dX0_putProp_0 6 46 rfl)
theorem dX0_putProp_7 : decode cX0_putProp 7 = .ok (.aload_n 0, 1) := o_42 (bg_dX0_putProp_0 7 42 rfl)
theorem dX0_putProp_8 : decode cX0_putProp 8 = .ok (.iload_n 1, 1) := o_27 (bg_dX0_putProp_0 8 27 rfl)
theorem dX0_putProp_9 : decode cX0_putProp 9 = .ok (.bipush 6, 2) := o_16 (bg_dX0_putProp_0 9 16 rfl) (bg_dX0_putProp_0 10 6 rfl) (by decide +kernel)
theorem dX0_putProp_11 : decode cX0_putProp 11 = .ok (.iload_n 3, 1) := o_29 (bg_dX0_putProp_0 11 29 rfl)
theorem dX0_putProp_12 : decode cX0_putProp 12 = .ok (.invokevirtual 46, 3) := o_182 (bg_dX0_putProp_0 12 182 rfl) (bg_dX0_putProp_0 13 0 rfl) (bg_dX0_putProp_0 14 46 rfl)
theorem dX0_putProp_15 : decode cX0_putProp 15 = .ok (.return_, 1) := o_177 (bg_dX0_putProp_0 15 177 rfl)
theorem bg_dX0_startTrip_0 : bysAt cX0_startTrip 0 [42, 180, 0, 33, 3, 29, 79, 42, 180, 0, 33, 4, 21, 4, 79, 42, 180, 0, 33, 5, 21, 5] := bysAt_of (by decide +kernel)
theorem dX0_startTrip_0 : decode cX0_startTrip 0 = .ok (.aload_n 0, 1) := o_42 (bg_dX0_startTrip_0 0 42 rfl)
theorem dX0_startTrip_1 : decode cX0_startTrip 1 = .ok (.getfield 33, 3) := o_180 (bg_dX0_startTrip_0 1 180 rfl) (bg_dX0_startTrip_0 2 0 rfl) (bg_dX0_startTrip_0 3 33 rfl)
theorem dX0_startTrip_4 : decode cX0_startTrip 4 = .ok (.iconst 0, 1) := o_3 (bg_dX0_startTrip_0 4 3 rfl)
theorem dX0_startTrip_5 : decode cX0_startTrip 5 = .ok (.iload_n 3, 1) := o_29 (bg_dX0_startTrip_0 5 29 rfl)
theorem dX0_startTrip_6 : decode cX0_startTrip 6 = .ok (.iastore, 1) := o_79 (bg_dX0_startTrip_0 6 79 rfl)
theorem dX0_startTrip_7 : decode cX0_startTrip 7 = .ok (.aload_n 0, 1) := o_42 (bg_dX0_startTrip_0 7 42 rfl)
theorem dX0_startTrip_8 : decode cX0_startTrip 8 = .ok (.getfield 33, 3) := o_180 (bg_dX0_startTrip_0 8 180 rfl) (bg_dX0_startTrip_0 9 0 rfl) (bg_dX0_startTrip_0 10 33 rfl)
theorem dX0_startTrip_11 : decode cX0_startTrip 11 = .ok (.iconst 1, 1) := o_4 (bg_dX0_startTrip_0 11 4 rfl)
theorem dX0_startTrip_12 : decode cX0_startTrip 12 = .ok (.iload 4, 2) := o_21 (bg_dX0_startTrip_0 12 21 rfl) (bg_dX0_startTrip_0 13 4 rfl)
theorem dX0_startTrip_14 : decode cX0_startTrip 14 = .ok (.iastore, 1) := o_79 (bg_dX0_startTrip_0 14 79 rfl)
theorem dX0_startTrip_15 : decode cX0_startTrip 15 = .ok (.aload_n 0, 1) := o_42 (bg_dX0_startTrip_0 15 42 rfl)
theorem dX0_startTrip_16 : decode cX0_startTrip 16 = .ok (.getfield 33, 3) := o_180 (bg_dX0_startTrip_0 16 180 rfl) (bg_dX0_startTrip_0 17 0 rfl) (bg_dX0_startTrip_0 18 33 rfl)
theorem dX0_startTrip_19 : decode cX0_startTrip 19 = .ok (.iconst 2, 1) := o_5 (bg_dX0_startTrip_0 19 5 rfl)
theorem dX0_startTrip_20 : decode cX0_startTrip 20 = .ok (.iload 5, 2) := o_21 (bg_dX0_startTrip_0 20 21 rfl) (bg_dX0_startTrip_0 21 5 rfl)
theorem bg_dX0_startTrip_22 : bysAt cX0_startTrip 22 [79, 42, 180, 0, 33, 6, 3, 79, 42, 180, 0, 33, 7, 3, 79, 42, 180, 0, 33, 8] := bysAt_of (by decide +kernel)
theorem dX0_startTrip_22 : decode cX0_startTrip 22 = .ok (.iastore, 1) := o_79 (bg_dX0_startTrip_22 0 79 rfl)
theorem dX0_startTrip_23 : decode cX0_startTrip 23 = .ok (.aload_n 0, 1) := o_42 (bg_dX0_startTrip_22 1 42 rfl)
theorem dX0_startTrip_24 : decode cX0_startTrip 24 = .ok (.getfield 33, 3) := o_180 (bg_dX0_startTrip_22 2 180 rfl) (bg_dX0_startTrip_22 3 0 rfl) (bg_dX0_startTrip_22 4 33 rfl)
theorem dX0_startTrip_27 : decode cX0_startTrip 27 = .ok (.iconst 3, 1) := o_6 (bg_dX0_startTrip_22 5 6 rfl)
theorem dX0_startTrip_28 : decode cX0_startTrip 28 = .ok (.iconst 0, 1) := o_3 (bg_dX0_startTrip_22 6 3 rfl)
theorem dX0_startTrip_29 : decode cX0_startTrip 29 = .ok (.iastore, 1) := o_79 (bg_dX0_startTrip_22 7 79 rfl)
theorem dX0_startTrip_30 : decode cX0_startTrip 30 = .ok (.aload_n 0, 1) := o_42 (bg_dX0_startTrip_22 8 42 rfl)
theorem dX0_startTrip_31 : decode cX0_startTrip 31 = .ok (.getfield 33, 3) := o_180 (bg_dX0_startTrip_22 9 180 rfl) (bg_dX0_startTrip_22 10 0 rfl) (bg_dX0_startTrip_22 11 33 rfl)
theorem dX0_startTrip_34 : decode cX0_startTrip 34 = .ok (.iconst 4, 1) := o_7 (bg_dX0_startTrip_22 12 7 rfl)
theorem dX0_startTrip_35 : decode cX0_startTrip 35 = .ok (.iconst 0, 1) := o_3 (bg_dX0_startTrip_22 13 3 rfl)
theorem dX0_startTrip_36 : decode cX0_startTrip 36 = .ok (.iastore, 1) := o_79 (bg_dX0_startTrip_22 14 79 rfl)
theorem dX0_startTrip_37 : decode cX0_startTrip 37 = .ok (.aload_n 0, 1) := o_42 (bg_dX0_startTrip_22 15 42 rfl)
theorem dX0_startTrip_38 : decode cX0_startTrip 38 = .ok (.getfield 33, 3) := o_180 (bg_dX0_startTrip_22 16 180 rfl) (bg_dX0_startTrip_22 17 0 rfl) (bg_dX0_startTrip_22 18 33 rfl)
theorem dX0_startTrip_41 : decode cX0_startTrip 41 = .ok (.iconst 5, 1) := o_8 (bg_dX0_startTrip_22 19 8 rfl)
theorem bg_dX0_startTrip_42 : bysAt cX0_startTrip 42 [27, 79, 42, 180, 0, 33, 16, 6, 28, 79, 42, 4, 181, 0, 36, 177] := bysAt_of (by decide +kernel)
theorem dX0_startTrip_42 : decode cX0_startTrip 42 = .ok (.iload_n 1, 1) := o_27 (bg_dX0_startTrip_42 0 27 rfl)
theorem dX0_startTrip_43 : decode cX0_startTrip 43 = .ok (.iastore, 1) := o_79 (bg_dX0_startTrip_42 1 79 rfl)
theorem dX0_startTrip_44 : decode cX0_startTrip 44 = .ok (.aload_n 0, 1) := o_42 (bg_dX0_startTrip_42 2 42 rfl)
theorem dX0_startTrip_45 : decode cX0_startTrip 45 = .ok (.getfield 33, 3) := o_180 (bg_dX0_startTrip_42 3 180 rfl) (bg_dX0_startTrip_42 4 0 rfl) (bg_dX0_startTrip_42 5 33 rfl)
theorem dX0_startTrip_48 : decode cX0_startTrip 48 = .ok (.bipush 6, 2) := o_16 (bg_dX0_startTrip_42 6 16 rfl) (bg_dX0_startTrip_42 7 6 rfl) (by decide +kernel)
theorem dX0_startTrip_50 : decode cX0_startTrip 50 = .ok (.iload_n 2, 1) := o_28 (bg_dX0_startTrip_42 8 28 rfl)
theorem dX0_startTrip_51 : decode cX0_startTrip 51 = .ok (.iastore, 1) := o_79 (bg_dX0_startTrip_42 9 79 rfl)
theorem dX0_startTrip_52 : decode cX0_startTrip 52 = .ok (.aload_n 0, 1) := o_42 (bg_dX0_startTrip_42 10 42 rfl)
theorem dX0_startTrip_53 : decode cX0_startTrip 53 = .ok (.iconst 1, 1) := o_4 (bg_dX0_startTrip_42 11 4 rfl)
theorem dX0_startTrip_54 : decode cX0_startTrip 54 = .ok (.putfield 36, 3) := o_181 (bg_dX0_startTrip_42 12 181 rfl) (bg_dX0_startTrip_42 13 0 rfl) (bg_dX0_startTrip_42 14 36 rfl)
theorem dX0_startTrip_57 : decode cX0_startTrip 57 = .ok (.return_, 1) := o_177 (bg_dX0_startTrip_42 15 177 rfl)
theorem bg_dX0_sumOfParts_0 : bysAt cX0_sumOfParts 0 [3, 62, 3, 54, 4, 21, 4, 42, 180, 0, 13, 6, 46, 162, 0, 33, 27, 21, 4, 122, 4] := bysAt_of (by decide +kernel)
theorem dX0_sumOfParts_0 : decode cX0_sumOfParts 0 = .ok (.iconst 0, 1) := o_3 (bg_dX0_sumOfParts_0 0 3 rfl)
theorem dX0_sumOfParts_1 : decode cX0_sumOfParts 1 = .ok (.istore_n 3, 1) := o_62 (bg_dX0_sumOfParts_0 1 62 rfl)
theorem dX0_sumOfParts_2 : decode cX0_sumOfParts 2 = .ok (.iconst 0, 1) := o_3 (bg_dX0_sumOfParts_0 2 3 rfl)
theorem dX0_sumOfParts_3 : decode cX0_sumOfParts 3 = .ok (.istore 4, 2) := o_54 (bg_dX0_sumOfParts_0 3 54 rfl) (bg_dX0_sumOfParts_0 4 4 rfl)
theorem dX0_sumOfParts_5 : decode cX0_sumOfParts 5 = .ok (.iload 4, 2) := o_21 (bg_dX0_sumOfParts_0 5 21 rfl) (bg_dX0_sumOfParts_0 6 4 rfl)
theorem dX0_sumOfParts_7 : decode cX0_sumOfParts 7 = .ok (.aload_n 0, 1) := o_42 (bg_dX0_sumOfParts_0 7 42 rfl)
theorem dX0_sumOfParts_8 : decode cX0_sumOfParts 8 = .ok (.getfield 13, 3) := o_180 (bg_dX0_sumOfParts_0 8 180 rfl) (bg_dX0_sumOfParts_0 9 0 rfl) (bg_dX0_sumOfParts_0 10 13 rfl)
theorem dX0_sumOfParts_11 : decode cX0_sumOfParts 11 = .ok (.iconst 3, 1) := o_6 (bg_dX0_sumOfParts_0 11 6 rfl)
theorem dX0_sumOfParts_12 : decode cX0_sumOfParts 12 = .ok (.iaload, 1) := o_46 (bg_dX0_sumOfParts_0 12 46 rfl)
theorem dX0_sumOfParts_13 : decode cX0_sumOfParts 13 = .ok (.if_icmp .ge 33, 3) := o_162 (bg_dX0_sumOfParts_0 13 162 rfl) (bg_dX0_sumOfParts_0 14 0 rfl) (bg_dX0_sumOfParts_0 15 33 rfl) (by decide +kernel)
theorem dX0_sumOfParts_16 : decode cX0_sumOfParts 16 = .ok (.iload_n 1, 1) := o_27 (bg_dX0_sumOfParts_0 16 27 rfl)
theorem dX0_sumOfParts_17 : decode cX0_sumOfParts 17 = .ok (.iload 4, 2) := o_21 (bg_dX0_sumOfParts_0 17 21 rfl) (bg_dX0_sumOfParts_0 18 4 rfl)
theorem dX0_sumOfParts_19 : decode cX0_sumOfParts 19 = .ok (.ishr, 1) := o_122 (bg_dX0_sumOfParts_0 19 122 rfl)
theorem dX0_sumOfParts_20 : decode cX0_sumOfParts 20 = .ok (.iconst 1, 1) := o_4 (bg_dX0_sumOfParts_0 20 4 rfl)
theorem bg_dX0_sumOfParts_21 : bysAt cX0_sumOfParts 21 [126, 4, 160, 0, 17, 29, 42, 180, 0, 27, 21, 4, 5, 104, 28, 96, 46, 96, 62] := bysAt_of (by decide +kernel)
theorem dX0_sumOfParts_21 : decode cX0_sumOfParts 21 = .ok (.iand, 1) := o_126 (bg_dX0_sumOfParts_21 0 126 rfl)
theorem dX0_sumOfParts_22 : decode cX0_sumOfParts 22 = .ok (.iconst 1, 1) := o_4 (bg_dX0_sumOfParts_21 1 4 rfl)
theorem dX0_sumOfParts_23 : decode cX0_sumOfParts 23 = .ok (.if_icmp .ne 17, 3) := o_160 (bg_dX0_sumOfParts_21 2 160 rfl) (bg_dX0_sumOfParts_21 3 0 rfl) (bg_dX0_sumOfParts_21 4 17 rfl) (by decide +kernel)
theorem dX0_sumOfParts_26 : decode cX0_sumOfParts 26 = .ok (.iload_n 3, 1) := o_29 (bg_dX0_sumOfParts_21 5 29 rfl)
theorem dX0_sumOfParts_27 : decode cX0_sumOfParts 27 = .ok (.aload_n 0, 1) := o_42 (bg_dX0_sumOfParts_21 6 42 rfl)
theorem dX0_sumOfParts_28 : decode cX0_sumOfParts 28 = .ok (.getfield 27, 3) := o_180 (bg_dX0_sumOfParts_21 7 180 rfl) (bg_dX0_sumOfParts_21 8 0 rfl) (bg_dX0_sumOfParts_21 9 27 rfl)
theorem dX0_sumOfParts_31 : decode cX0_sumOfParts 31 = .ok (.iload 4, 2) := o_21 (bg_dX0_sumOfParts_21 10 21 rfl) (bg_dX0_sumOfParts_21 11 4 rfl)
theorem dX0_sumOfParts_33 : decode cX0_sumOfParts 33 = .ok (.iconst 2, 1) := o_5 (bg_dX0_sumOfParts_21 12 5 rfl)
theorem dX0_sumOfParts_34 : decode cX0_sumOfParts 34 = .ok (.imul, 1) := o_104 (bg_dX0_sumOfParts_21 13 104 rfl)
theorem dX0_sumOfParts_35 : decode cX0_sumOfParts 35 = .ok (.iload_n 2, 1) := o_28 (bg_dX0_sumOfParts_21 14 28 rfl)
theorem dX0_sumOfParts_36 : decode cX0_sumOfParts 36 = .ok (.iadd, 1) := o_96 (bg_dX0_sumOfParts_21 15 96 rfl)
theorem dX0_sumOfParts_37 : decode cX0_sumOfParts 37 = .ok (.iaload, 1) := o_46 (bg_dX0_sumOfParts_21 16 46 rfl)
theorem dX0_sumOfParts_38 : decode cX0_sumOfParts 38 = .ok (.iadd, 1) := o_96 (bg_dX0_sumOfParts_21 17 96 rfl)
theorem dX0_sumOfParts_39 : decode cX0_sumOfParts 39 = .ok (.istore_n 3, 1) := o_62 (bg_dX0_sumOfParts_21 18 62 rfl)
theorem bg_dX0_sumOfParts_43 : bysAt cX0_sumOfParts 43 [167, 255, 218, 29, 172] := bysAt_of (by decide +kernel)
theorem dX0_sumOfParts_43 : decode cX0_sumOfParts 43 = .ok (.goto (-38), 3) := o_167 (bg_dX0_sumOfParts_43 0 167 rfl) (bg_dX0_sumOfParts_43 1 255 rfl) (bg_dX0_sumOfParts_43 2 218 rfl) (by decide +kernel)
theorem dX0_sumOfParts_46 : decode cX0_sumOfParts 46 = .ok (.iload_n 3, 1) := o_29 (bg_dX0_sumOfParts_43 3 29 rfl)
theorem dX0_sumOfParts_47 : decode cX0_sumOfParts 47 = .ok (.ireturn, 1) := o_172 (bg_dX0_sumOfParts_43 4 172 rfl)
theorem bg_dX0_waggonLength_0 : bysAt cX0_waggonLength 0 [42, 27, 4, 182, 0, 54, 42, 27, 3, 182, 0, 54, 4, 100, 104, 7, 96, 172] := bysAt_of (by decide +kernel)
theorem dX0_waggonLength_0 : decode cX0_waggonLength 0 = .ok (.aload_n 0, 1) := o_42 (bg_dX0_waggonLength_0 0 42 rfl)
theorem dX0_waggonLength_1 : decode cX0_waggonLength 1 = .ok (.iload_n 1, 1) := o_27 (bg_dX0_waggonLength_0 1 27 rfl)
theorem dX0_waggonLength_2 : decode cX0_waggonLength 2 = .ok (.iconst 1, 1) := o_4 (bg_dX0_waggonLength_0 2 4 rfl)
theorem dX0_waggonLength_3 : decode cX0_waggonLength 3 = .ok (.invokevirtual 54, 3) := o_182 (bg_dX0_waggonLength_0 3 182 rfl) (bg_dX0_waggonLength_0 4 0 rfl) (bg_dX0_waggonLength_0 5 54 rfl)
theorem dX0_waggonLength_6 : decode cX0_waggonLength 6 = .ok (.aload_n 0, 1) := o_42 (bg_dX0_waggonLength_0 6 42 rfl)
theorem dX0_waggonLength_7 : decode cX0_waggonLength 7 = .ok (.iload_n 1, 1) := o_27 (bg_dX0_waggonLength_0 7 27 rfl)
theorem dX0_waggonLength_8 : decode cX0_waggonLength 8 = .ok (.iconst 0, 1) := o_3 (bg_dX0_waggonLength_0 8 3 rfl)
theorem dX0_waggonLength_9 : decode cX0_waggonLength 9 = .ok (.invokevirtual 54, 3) := o_182 (bg_dX0_waggonLength_0 9 182 rfl) (bg_dX0_waggonLength_0 10 0 rfl) (bg_dX0_waggonLength_0 11 54 rfl)
theorem dX0_waggonLength_12 : decode cX0_waggonLength 12 = .ok (.iconst 1, 1) := o_4 (bg_dX0_waggonLength_0 12 4 rfl)
theorem dX0_waggonLength_13 : decode cX0_waggonLength 13 = .ok (.isub, 1) := o_100 (bg_dX0_waggonLength_0 13 100 rfl)
theorem dX0_waggonLength_14 : decode cX0_waggonLength 14 = .ok (.imul, 1) := o_104 (bg_dX0_waggonLength_0 14 104 rfl)
theorem dX0_waggonLength_15 : decode cX0_waggonLength 15 = .ok (.iconst 4, 1) := o_7 (bg_dX0_waggonLength_0 15 7 rfl)
theorem dX0_waggonLength_16 : decode cX0_waggonLength 16 = .ok (.iadd, 1) := o_96 (bg_dX0_waggonLength_0 16 96 rfl)
theorem dX0_waggonLength_17 : decode cX0_waggonLength 17 = .ok (.ireturn, 1) := o_172 (bg_dX0_waggonLength_0 17 172 rfl)
theorem bg_dX1_needsOf_0 : bysAt cX1_needsOf 0 [42, 180, 0, 46, 43, 28, 182, 0, 58, 164, 0, 5, 5, 172, 42, 43, 28, 5, 182, 0, 61, 182, 0, 64] := bysAt_of (by decide +kernel)
theorem dX1_needsOf_0 : decode cX1_needsOf 0 = .ok (.aload_n 0, 1) := o_42 (bg_dX1_needsOf_0 0 42 rfl)
theorem dX1_needsOf_1 : decode cX1_needsOf 1 = .ok (.getfield 46, 3) := o_180 (bg_dX1_needsOf_0 1 180 rfl) (bg_dX1_needsOf_0 2 0 rfl) (bg_dX1_needsOf_0 3 46 rfl)
theorem dX1_needsOf_4 : decode cX1_needsOf 4 = .ok (.aload_n 1, 1) := o_43 (bg_dX1_needsOf_0 4 43 rfl)
theorem dX1_needsOf_5 : decode cX1_needsOf 5 = .ok (.iload_n 2, 1) := o_28 (bg_dX1_needsOf_0 5 28 rfl)
theorem dX1_needsOf_6 : decode cX1_needsOf 6 = .ok (.invokevirtual 58, 3) := o_182 (bg_dX1_needsOf_0 6 182 rfl) (bg_dX1_needsOf_0 7 0 rfl) (bg_dX1_needsOf_0 8 58 rfl)
theorem dX1_needsOf_9 : decode cX1_needsOf 9 = .ok (.if_icmp .le 5, 3) := o_164 (bg_dX1_needsOf_0 9 164 rfl) (bg_dX1_needsOf_0 10 0 rfl) (bg_dX1_needsOf_0 11 5 rfl) (by decide +kernel)
theorem dX1_needsOf_12 : decode cX1_needsOf 12 = .ok (.iconst 2, 1) := o_5 (bg_dX1_needsOf_0 12 5 rfl)
theorem dX1_needsOf_13 : decode cX1_needsOf 13 = .ok (.ireturn, 1) := o_172 (bg_dX1_needsOf_0 13 172 rfl)
theorem dX1_needsOf_14 : decode cX1_needsOf 14 = .ok (.aload_n 0, 1) := o_42 (bg_dX1_needsOf_0 14 42 rfl)
theorem dX1_needsOf_15 : decode cX1_needsOf 15 = .ok (.aload_n 1, 1) := o_43 (bg_dX1_needsOf_0 15 43 rfl)
theorem dX1_needsOf_16 : decode cX1_needsOf 16 = .ok (.iload_n 2, 1) := o_28 (bg_dX1_needsOf_0 16 28 rfl)
theorem dX1_needsOf_17 : decode cX1_needsOf 17 = .ok (.iconst 2, 1) := o_5 (bg_dX1_needsOf_0 17 5 rfl)
theorem dX1_needsOf_18 : decode cX1_needsOf 18 = .ok (.invokevirtual 61, 3) := o_182 (bg_dX1_needsOf_0 18 182 rfl) (bg_dX1_needsOf_0 19 0 rfl) (bg_dX1_needsOf_0 20 61 rfl)
theorem dX1_needsOf_21 : decode cX1_needsOf 21 = .ok (.invokevirtual 64, 3) := o_182 (bg_dX1_needsOf_0 21 182 rfl) (bg_dX1_needsOf_0 22 0 rfl) (bg_dX1_needsOf_0 23 64 rfl)
theorem bg_dX1_needsOf_24 : bysAt cX1_needsOf 24 [62, 43, 28, 182, 0, 67, 54, 4, 29, 43, 28, 21, 4, 182, 0, 71, 163, 0, 5, 3, 172, 21, 4] := bysAt_of (by decide +kernel)
theorem dX1_needsOf_24 : decode cX1_needsOf 24 = .ok (.istore_n 3, 1) := o_62 (bg_dX1_needsOf_24 0 62 rfl)
theorem dX1_needsOf_25 : decode cX1_needsOf 25 = .ok (.aload_n 1, 1) := o_43 (bg_dX1_needsOf_24 1 43 rfl)
theorem dX1_needsOf_26 : decode cX1_needsOf 26 = .ok (.iload_n 2, 1) := o_28 (bg_dX1_needsOf_24 2 28 rfl)
theorem dX1_needsOf_27 : decode cX1_needsOf 27 = .ok (.invokevirtual 67, 3) := o_182 (bg_dX1_needsOf_24 3 182 rfl) (bg_dX1_needsOf_24 4 0 rfl) (bg_dX1_needsOf_24 5 67 rfl)
theorem dX1_needsOf_30 : decode cX1_needsOf 30 = .ok (.istore 4, 2) := o_54 (bg_dX1_needsOf_24 6 54 rfl) (bg_dX1_needsOf_24 7 4 rfl)
theorem dX1_needsOf_32 : decode cX1_needsOf 32 = .ok (.iload_n 3, 1) := o_29 (bg_dX1_needsOf_24 8 29 rfl)
theorem dX1_needsOf_33 : decode cX1_needsOf 33 = .ok (.aload_n 1, 1) := o_43 (bg_dX1_needsOf_24 9 43 rfl)
theorem dX1_needsOf_34 : decode cX1_needsOf 34 = .ok (.iload_n 2, 1) := o_28 (bg_dX1_needsOf_24 10 28 rfl)
theorem dX1_needsOf_35 : decode cX1_needsOf 35 = .ok (.iload 4, 2) := o_21 (bg_dX1_needsOf_24 11 21 rfl) (bg_dX1_needsOf_24 12 4 rfl)
theorem dX1_needsOf_37 : decode cX1_needsOf 37 = .ok (.invokevirtual 71, 3) := o_182 (bg_dX1_needsOf_24 13 182 rfl) (bg_dX1_needsOf_24 14 0 rfl) (bg_dX1_needsOf_24 15 71 rfl)
theorem dX1_needsOf_40 : decode cX1_needsOf 40 = .ok (.if_icmp .gt 5, 3) := o_163 (bg_dX1_needsOf_24 16 163 rfl) (bg_dX1_needsOf_24 17 0 rfl) (bg_dX1_needsOf_24 18 5 rfl) (by decide +kernel)
theorem dX1_needsOf_43 : decode cX1_needsOf 43 = .ok (.iconst 0, 1) := o_3 (bg_dX1_needsOf_24 19 3 rfl)
theorem dX1_needsOf_44 : decode cX1_needsOf 44 = .ok (.ireturn, 1) := o_172 (bg_dX1_needsOf_24 20 172 rfl)
theorem dX1_needsOf_45 : decode cX1_needsOf 45 = .ok (.iload 4, 2) := o_21 (bg_dX1_needsOf_24 21 21 rfl) (bg_dX1_needsOf_24 22 4 rfl)
theorem bg_dX1_needsOf_47 : bysAt cX1_needsOf 47 [154, 0, 13, 43, 28, 4, 182, 0, 61, 6, 160, 0, 5, 5, 172, 29, 43, 28, 4, 182, 0, 71] := bysAt_of (by decide +kernel)
theorem dX1_needsOf_47 : decode cX1_needsOf 47 = .ok (.ifCond .ne 13, 3) := o_154 (bg_dX1_needsOf_47 0 154 rfl) (bg_dX1_needsOf_47 1 0 rfl) (bg_dX1_needsOf_47 2 13 rfl) (by decide +kernel)
theorem dX1_needsOf_50 : decode cX1_needsOf 50 = .ok (.aload_n 1, 1) := o_43 (bg_dX1_needsOf_47 3 43 rfl)
theorem dX1_needsOf_51 : decode cX1_needsOf 51 = .ok (.iload_n 2, 1) := o_28 (bg_dX1_needsOf_47 4 28 rfl)
theorem dX1_needsOf_52 : decode cX1_needsOf 52 = .ok (.iconst 1, 1) := o_4 (bg_dX1_needsOf_47 5 4 rfl)
theorem dX1_needsOf_53 : decode cX1_needsOf 53 = .ok (.invokevirtual 61, 3) := o_182 (bg_dX1_needsOf_47 6 182 rfl) (bg_dX1_needsOf_47 7 0 rfl) (bg_dX1_needsOf_47 8 61 rfl)
theorem dX1_needsOf_56 : decode cX1_needsOf 56 = .ok (.iconst 3, 1) := o_6 (bg_dX1_needsOf_47 9 6 rfl)
theorem dX1_needsOf_57 : decode cX1_needsOf 57 = .ok (.if_icmp .ne 5, 3) := o_160 (bg_dX1_needsOf_47 10 160 rfl) (bg_dX1_needsOf_47 11 0 rfl) (bg_dX1_needsOf_47 12 5 rfl) (by decide +kernel)
theorem dX1_needsOf_60 : decode cX1_needsOf 60 = .ok (.iconst 2, 1) := o_5 (bg_dX1_needsOf_47 13 5 rfl)
theorem dX1_needsOf_61 : decode cX1_needsOf 61 = .ok (.ireturn, 1) := o_172 (bg_dX1_needsOf_47 14 172 rfl)
theorem dX1_needsOf_62 : decode cX1_needsOf 62 = .ok (.iload_n 3, 1) := o_29 (bg_dX1_needsOf_47 15 29 rfl)
theorem dX1_needsOf_63 : decode cX1_needsOf 63 = .ok (.aload_n 1, 1) := o_43 (bg_dX1_needsOf_47 16 43 rfl)
theorem dX1_needsOf_64 : decode cX1_needsOf 64 = .ok (.iload_n 2, 1) := o_28 (bg_dX1_needsOf_47 17 28 rfl)
theorem dX1_needsOf_65 : decode cX1_needsOf 65 = .ok (.iconst 1, 1) := o_4 (bg_dX1_needsOf_47 18 4 rfl)
theorem dX1_needsOf_66 : decode cX1_needsOf 66 = .ok (.invokevirtual 71, 3) := o_182 (bg_dX1_needsOf_47 19 182 rfl) (bg_dX1_needsOf_47 20 0 rfl) (bg_dX1_needsOf_47 21 71 rfl)
theorem bg_dX1_needsOf_69 : bysAt cX1_needsOf 69 [163, 0, 7, 4, 167, 0, 4, 5, 172] := bysAt_of (by decide +kernel)
theorem dX1_needsOf_69 : decode cX1_needsOf 69 = .ok (.if_icmp .gt 7, 3) := o_163 (bg_dX1_needsOf_69 0 163 rfl) (bg_dX1_needsOf_69 1 0 rfl) (bg_dX1_needsOf_69 2 7 rfl) (by decide +kernel)
theorem dX1_needsOf_72 : decode cX1_needsOf 72 = .ok (.iconst 1, 1) := o_4 (bg_dX1_needsOf_69 3 4 rfl)
theorem dX1_needsOf_73 : decode cX1_needsOf 73 = .ok (.goto 4, 3) := o_167 (bg_dX1_needsOf_69 4 167 rfl) (bg_dX1_needsOf_69 5 0 rfl) (bg_dX1_needsOf_69 6 4 rfl) (by decide +kernel)
theorem dX1_needsOf_76 : decode cX1_needsOf 76 = .ok (.iconst 2, 1) := o_5 (bg_dX1_needsOf_69 7 5 rfl)
theorem dX1_needsOf_77 : decode cX1_needsOf 77 = .ok (.ireturn, 1) := o_172 (bg_dX1_needsOf_69 8 172 rfl)
theorem bg_dX1_strainOn_0 : bysAt cX1_strainOn 0 [42, 180, 0, 15, 27, 42, 180, 0, 21, 184, 0, 52, 4, 96, 184, 0, 55, 42, 180, 0, 46, 104, 172] := bysAt_of (by decide +kernel)
theorem dX1_strainOn_0 : decode cX1_strainOn 0 = .ok (.aload_n 0, 1) := o_42 (bg_dX1_strainOn_0 0 42 rfl)
theorem dX1_strainOn_1 : decode cX1_strainOn 1 = .ok (.getfield 15, 3) := o_180 (bg_dX1_strainOn_0 1 180 rfl) (bg_dX1_strainOn_0 2 0 rfl) (bg_dX1_strainOn_0 3 15 rfl)
theorem dX1_strainOn_4 : decode cX1_strainOn 4 = .ok (.iload_n 1, 1) := o_27 (bg_dX1_strainOn_0 4 27 rfl)
theorem dX1_strainOn_5 : decode cX1_strainOn 5 = .ok (.aload_n 0, 1) := o_42 (bg_dX1_strainOn_0 5 42 rfl)
theorem dX1_strainOn_6 : decode cX1_strainOn 6 = .ok (.getfield 21, 3) := o_180 (bg_dX1_strainOn_0 6 180 rfl) (bg_dX1_strainOn_0 7 0 rfl) (bg_dX1_strainOn_0 8 21 rfl)
theorem dX1_strainOn_9 : decode cX1_strainOn 9 = .ok (.invokestatic 52, 3) := o_184 (bg_dX1_strainOn_0 9 184 rfl) (bg_dX1_strainOn_0 10 0 rfl) (bg_dX1_strainOn_0 11 52 rfl)
theorem dX1_strainOn_12 : decode cX1_strainOn 12 = .ok (.iconst 1, 1) := o_4 (bg_dX1_strainOn_0 12 4 rfl)
theorem dX1_strainOn_13 : decode cX1_strainOn 13 = .ok (.iadd, 1) := o_96 (bg_dX1_strainOn_0 13 96 rfl)
theorem dX1_strainOn_14 : decode cX1_strainOn 14 = .ok (.invokestatic 55, 3) := o_184 (bg_dX1_strainOn_0 14 184 rfl) (bg_dX1_strainOn_0 15 0 rfl) (bg_dX1_strainOn_0 16 55 rfl)
theorem dX1_strainOn_17 : decode cX1_strainOn 17 = .ok (.aload_n 0, 1) := o_42 (bg_dX1_strainOn_0 17 42 rfl)
theorem dX1_strainOn_18 : decode cX1_strainOn 18 = .ok (.getfield 46, 3) := o_180 (bg_dX1_strainOn_0 18 180 rfl) (bg_dX1_strainOn_0 19 0 rfl) (bg_dX1_strainOn_0 20 46 rfl)
theorem dX1_strainOn_21 : decode cX1_strainOn 21 = .ok (.imul, 1) := o_104 (bg_dX1_strainOn_0 21 104 rfl)
theorem dX1_strainOn_22 : decode cX1_strainOn 22 = .ok (.ireturn, 1) := o_172 (bg_dX1_strainOn_0 22 172 rfl)
theorem bg_dX1_take_0 : bysAt cX1_take 0 [42, 43, 28, 3, 182, 0, 9, 181, 0, 15, 42, 43, 28, 4, 182, 0, 9, 181, 0, 21, 42, 43] := bysAt_of (by decide +kernel)
theorem dX1_take_0 : decode cX1_take 0 = .ok (.aload_n 0, 1) := o_42 (bg_dX1_take_0 0 42 rfl)
theorem dX1_take_1 : decode cX1_take 1 = .ok (.aload_n 1, 1) := o_43 (bg_dX1_take_0 1 43 rfl)
theorem dX1_take_2 : decode cX1_take 2 = .ok (.iload_n 2, 1) := o_28 (bg_dX1_take_0 2 28 rfl)
theorem dX1_take_3 : decode cX1_take 3 = .ok (.iconst 0, 1) := o_3 (bg_dX1_take_0 3 3 rfl)
theorem dX1_take_4 : decode cX1_take 4 = .ok (.invokevirtual 9, 3) := o_182 (bg_dX1_take_0 4 182 rfl) (bg_dX1_take_0 5 0 rfl) (bg_dX1_take_0 6 9 rfl)
theorem dX1_take_7 : decode cX1_take 7 = .ok (.putfield 15, 3) := o_181 (bg_dX1_take_0 7 181 rfl) (bg_dX1_take_0 8 0 rfl) (bg_dX1_take_0 9 15 rfl)
theorem dX1_take_10 : decode cX1_take 10 = .ok (.aload_n 0, 1) := o_42 (bg_dX1_take_0 10 42 rfl)
theorem dX1_take_11 : decode cX1_take 11 = .ok (.aload_n 1, 1) := o_43 (bg_dX1_take_0 11 43 rfl)
theorem dX1_take_12 : decode cX1_take 12 = .ok (.iload_n 2, 1) := o_28 (bg_dX1_take_0 12 28 rfl)
theorem dX1_take_13 : decode cX1_take 13 = .ok (.iconst 1, 1) := o_4 (bg_dX1_take_0 13 4 rfl)
theorem dX1_take_14 : decode cX1_take 14 = .ok (.invokevirtual 9, 3) := o_182 (bg_dX1_take_0 14 182 rfl) (bg_dX1_take_0 15 0 rfl) (bg_dX1_take_0 16 9 rfl)
theorem dX1_take_17 : decode cX1_take 17 = .ok (.putfield 21, 3) := o_181 (bg_dX1_take_0 17 181 rfl) (bg_dX1_take_0 18 0 rfl) (bg_dX1_take_0 19 21 rfl)
theorem dX1_take_20 : decode cX1_take 20 = .ok (.aload_n 0, 1) := o_42 (bg_dX1_take_0 20 42 rfl)
theorem dX1_take_21 : decode cX1_take 21 = .ok (.aload_n 1, 1) := o_43 (bg_dX1_take_0 21 43 rfl)
theorem bg_dX1_take_22 : bysAt cX1_take 22 [28, 182, 0, 24, 181, 0, 28, 43, 28, 5, 182, 0, 9, 43, 180, 0, 31, 3, 46, 96, 43, 29] := bysAt_of (by decide +kernel)
theorem dX1_take_22 : decode cX1_take 22 = .ok (.iload_n 2, 1) := o_28 (bg_dX1_take_22 0 28 rfl)
theorem dX1_take_23 : decode cX1_take 23 = .ok (.invokevirtual 24, 3) := o_182 (bg_dX1_take_22 1 182 rfl) (bg_dX1_take_22 2 0 rfl) (bg_dX1_take_22 3 24 rfl)
theorem dX1_take_26 : decode cX1_take 26 = .ok (.putfield 28, 3) := o_181 (bg_dX1_take_22 4 181 rfl) (bg_dX1_take_22 5 0 rfl) (bg_dX1_take_22 6 28 rfl)
theorem dX1_take_29 : decode cX1_take 29 = .ok (.aload_n 1, 1) := o_43 (bg_dX1_take_22 7 43 rfl)
theorem dX1_take_30 : decode cX1_take 30 = .ok (.iload_n 2, 1) := o_28 (bg_dX1_take_22 8 28 rfl)
theorem dX1_take_31 : decode cX1_take 31 = .ok (.iconst 2, 1) := o_5 (bg_dX1_take_22 9 5 rfl)
theorem dX1_take_32 : decode cX1_take 32 = .ok (.invokevirtual 9, 3) := o_182 (bg_dX1_take_22 10 182 rfl) (bg_dX1_take_22 11 0 rfl) (bg_dX1_take_22 12 9 rfl)
theorem dX1_take_35 : decode cX1_take 35 = .ok (.aload_n 1, 1) := o_43 (bg_dX1_take_22 13 43 rfl)
theorem dX1_take_36 : decode cX1_take 36 = .ok (.getfield 31, 3) := o_180 (bg_dX1_take_22 14 180 rfl) (bg_dX1_take_22 15 0 rfl) (bg_dX1_take_22 16 31 rfl)
theorem dX1_take_39 : decode cX1_take 39 = .ok (.iconst 0, 1) := o_3 (bg_dX1_take_22 17 3 rfl)
theorem dX1_take_40 : decode cX1_take 40 = .ok (.iaload, 1) := o_46 (bg_dX1_take_22 18 46 rfl)
theorem dX1_take_41 : decode cX1_take 41 = .ok (.iadd, 1) := o_96 (bg_dX1_take_22 19 96 rfl)
theorem dX1_take_42 : decode cX1_take 42 = .ok (.aload_n 1, 1) := o_43 (bg_dX1_take_22 20 43 rfl)
theorem dX1_take_43 : decode cX1_take 43 = .ok (.iload_n 3, 1) := o_29 (bg_dX1_take_22 21 29 rfl)
theorem bg_dX1_take_44 : bysAt cX1_take 44 [3, 182, 0, 35, 100, 54, 4, 42, 21, 4, 3, 184, 0, 38, 42, 180, 0, 15, 184, 0, 43, 181, 0, 46, 42, 43] := bysAt_of (by decide +kernel)
theorem dX1_take_44 : decode cX1_take 44 = .ok (.iconst 0, 1) := o_3 (bg_dX1_take_44 0 3 rfl)
theorem dX1_take_45 : decode cX1_take 45 = .ok (.invokevirtual 35, 3) := o_182 (bg_dX1_take_44 1 182 rfl) (bg_dX1_take_44 2 0 rfl) (bg_dX1_take_44 3 35 rfl)
theorem dX1_take_48 : decode cX1_take 48 = .ok (.isub, 1) := o_100 (bg_dX1_take_44 4 100 rfl)
theorem dX1_take_49 : decode cX1_take 49 = .ok (.istore 4, 2) := o_54 (bg_dX1_take_44 5 54 rfl) (bg_dX1_take_44 6 4 rfl)
theorem dX1_take_51 : decode cX1_take 51 = .ok (.aload_n 0, 1) := o_42 (bg_dX1_take_44 7 42 rfl)
theorem dX1_take_52 : decode cX1_take 52 = .ok (.iload 4, 2) := o_21 (bg_dX1_take_44 8 21 rfl) (bg_dX1_take_44 9 4 rfl)
theorem dX1_take_54 : decode cX1_take 54 = .ok (.iconst 0, 1) := o_3 (bg_dX1_take_44 10 3 rfl)
theorem dX1_take_55 : decode cX1_take 55 = .ok (.invokestatic 38, 3) := o_184 (bg_dX1_take_44 11 184 rfl) (bg_dX1_take_44 12 0 rfl) (bg_dX1_take_44 13 38 rfl)
theorem dX1_take_58 : decode cX1_take 58 = .ok (.aload_n 0, 1) := o_42 (bg_dX1_take_44 14 42 rfl)
theorem dX1_take_59 : decode cX1_take 59 = .ok (.getfield 15, 3) := o_180 (bg_dX1_take_44 15 180 rfl) (bg_dX1_take_44 16 0 rfl) (bg_dX1_take_44 17 15 rfl)
theorem dX1_take_62 : decode cX1_take 62 = .ok (.invokestatic 43, 3) := o_184 (bg_dX1_take_44 18 184 rfl) (bg_dX1_take_44 19 0 rfl) (bg_dX1_take_44 20 43 rfl)
theorem dX1_take_65 : decode cX1_take 65 = .ok (.putfield 46, 3) := o_181 (bg_dX1_take_44 21 181 rfl) (bg_dX1_take_44 22 0 rfl) (bg_dX1_take_44 23 46 rfl)
theorem dX1_take_68 : decode cX1_take 68 = .ok (.aload_n 0, 1) := o_42 (bg_dX1_take_44 24 42 rfl)
theorem dX1_take_69 : decode cX1_take 69 = .ok (.aload_n 1, 1) := o_43 (bg_dX1_take_44 25 43 rfl)
theorem bg_dX1_take_70 : bysAt cX1_take 70 [29, 4, 182, 0, 35, 181, 0, 49, 177] := bysAt_of (by decide +kernel)
theorem dX1_take_70 : decode cX1_take 70 = .ok (.iload_n 3, 1) := o_29 (bg_dX1_take_70 0 29 rfl)
theorem dX1_take_71 : decode cX1_take 71 = .ok (.iconst 1, 1) := o_4 (bg_dX1_take_70 1 4 rfl)
theorem dX1_take_72 : decode cX1_take 72 = .ok (.invokevirtual 35, 3) := o_182 (bg_dX1_take_70 2 182 rfl) (bg_dX1_take_70 3 0 rfl) (bg_dX1_take_70 4 35 rfl)
theorem dX1_take_75 : decode cX1_take 75 = .ok (.putfield 49, 3) := o_181 (bg_dX1_take_70 5 181 rfl) (bg_dX1_take_70 6 0 rfl) (bg_dX1_take_70 7 49 rfl)
theorem dX1_take_78 : decode cX1_take 78 = .ok (.return_, 1) := o_177 (bg_dX1_take_70 8 177 rfl)
theorem pdVX0_bearsAll : yX0_bearsAll.cls = RX0 ∧ yX0_bearsAll.cls ≠ "java/lang/invoke/MethodHandle" ∧ yX0_bearsAll.cls ≠ "java/lang/invoke/VarHandle" ∧ (parseMethodDescriptor yX0_bearsAll.desc).map (fun d => d.parameters.length) = some 2 := by decide +kernel
theorem pdVX0_bearsAxle : yX0_bearsAxle.cls = RX0 ∧ yX0_bearsAxle.cls ≠ "java/lang/invoke/MethodHandle" ∧ yX0_bearsAxle.cls ≠ "java/lang/invoke/VarHandle" ∧ (parseMethodDescriptor yX0_bearsAxle.desc).map (fun d => d.parameters.length) = some 1 := by decide +kernel
theorem pdVX0_believed : yX0_believed.cls = RX0 ∧ yX0_believed.cls ≠ "java/lang/invoke/MethodHandle" ∧ yX0_believed.cls ≠ "java/lang/invoke/VarHandle" ∧ (parseMethodDescriptor yX0_believed.desc).map (fun d => d.parameters.length) = some 2 := by decide +kernel
theorem pdVX0_isPropped : yX0_isPropped.cls = RX0 ∧ yX0_isPropped.cls ≠ "java/lang/invoke/MethodHandle" ∧ yX0_isPropped.cls ≠ "java/lang/invoke/VarHandle" ∧ (parseMethodDescriptor yX0_isPropped.desc).map (fun d => d.parameters.length) = some 1 := by decide +kernel
theorem pdVX0_ofBridge : yX0_ofBridge.cls = RX0 ∧ yX0_ofBridge.cls ≠ "java/lang/invoke/MethodHandle" ∧ yX0_ofBridge.cls ≠ "java/lang/invoke/VarHandle" ∧ (parseMethodDescriptor yX0_ofBridge.desc).map (fun d => d.parameters.length) = some 2 := by decide +kernel
theorem pdVX0_ofWaggon : yX0_ofWaggon.cls = RX0 ∧ yX0_ofWaggon.cls ≠ "java/lang/invoke/MethodHandle" ∧ yX0_ofWaggon.cls ≠ "java/lang/invoke/VarHandle" ∧ (parseMethodDescriptor yX0_ofWaggon.desc).map (fun d => d.parameters.length) = some 2 := by decide +kernel
theorem pdVX0_putBridgeColumn : yX0_putBridgeColumn.cls = RX0 ∧ yX0_putBridgeColumn.cls ≠ "java/lang/invoke/MethodHandle" ∧ yX0_putBridgeColumn.cls ≠ "java/lang/invoke/VarHandle" ∧ (parseMethodDescriptor yX0_putBridgeColumn.desc).map (fun d => d.parameters.length) = some 3 := by decide +kernel
theorem pdVX0_sumOfParts : yX0_sumOfParts.cls = RX0 ∧ yX0_sumOfParts.cls ≠ "java/lang/invoke/MethodHandle" ∧ yX0_sumOfParts.cls ≠ "java/lang/invoke/VarHandle" ∧ (parseMethodDescriptor yX0_sumOfParts.desc).map (fun d => d.parameters.length) = some 2 := by decide +kernel
theorem pdVX0_waggonLength : yX0_waggonLength.cls = RX0 ∧ yX0_waggonLength.cls ≠ "java/lang/invoke/MethodHandle" ∧ yX0_waggonLength.cls ≠ "java/lang/invoke/VarHandle" ∧ (parseMethodDescriptor yX0_waggonLength.desc).map (fun d => d.parameters.length) = some 1 := by decide +kernel
theorem pdVX1_strainOn : yX1_strainOn.cls = RX1 ∧ yX1_strainOn.cls ≠ "java/lang/invoke/MethodHandle" ∧ yX1_strainOn.cls ≠ "java/lang/invoke/VarHandle" ∧ (parseMethodDescriptor yX1_strainOn.desc).map (fun d => d.parameters.length) = some 1 := by decide +kernel
theorem pdX6_cut : yX6_cut.cls ≠ "java/lang/invoke/MethodHandle" ∧ yX6_cut.cls ≠ "java/lang/invoke/VarHandle" ∧ (parseMethodDescriptor yX6_cut.desc).map (fun d => d.parameters.length) = some 2 := by decide +kernel
theorem pdX6_roundedUp : yX6_roundedUp.cls ≠ "java/lang/invoke/MethodHandle" ∧ yX6_roundedUp.cls ≠ "java/lang/invoke/VarHandle" ∧ (parseMethodDescriptor yX6_roundedUp.desc).map (fun d => d.parameters.length) = some 2 := by decide +kernel
theorem dX0_addBridge_84 : decode cX0_addBridge 84 = .ok (.iinc 7 1, 3) := by decide +kernel
theorem dX0_countBridges_23 : decode cX0_countBridges 23 = .ok (.iinc 3 1, 3) := by decide +kernel
theorem dX0_sumOfParts_40 : decode cX0_sumOfParts 40 = .ok (.iinc 4 1, 3) := by decide +kernel
set_option maxHeartbeats 4000000 in
set_option maxRecDepth 100000 in
theorem c_X0_countBridges (l : Launch) (D : va_G) (E : Nat → ClassId) (G : Nat → Nat) (a : Nat → Nat) (C : Nat → va_E) (hT : TyX a E C) (x1 : Int32) (hx1 : rg x1 0 9) : Met l yX0_countBridges (oh_w yX0_countBridges cX0_countBridges 4 (some .int)) ({ frames := 1, cells := 0, slots := 0, locals := 22 }) (oh_Pp D E G [.ref (a 1), .int x1] (oh_W 35 a C)) (vp_Si (fun r => True)) 0 0 (fun _ => False) := by
  refine Met.ofW (cc := cX0_countBridges) (maxL := 4) (ret := (some .int)) (by decide) rfl ?_
  intro p e s m args below meth c s₁ B hml hv
  obtain ⟨rfl, hP, hK, hG⟩ := hv
  have hx := B.exec
  have hb := B.bytes
  have hr := B.returns
  have hts := atoms_spec (ws := (oh_w yX0_countBridges cX0_countBridges 4 (some .int))) B.pre
  have htg : ∀ w ∈ oh_t, w.before _ s = true := fun w h => hts w (List.mem_cons_of_mem _ h)
  have hown : s.vm.findClass RX0 = some m.cls := findClass_of_methodNamed B.named
  have hlocks := B.notSynchronized
  have hT0 := hT
  have hS : va_S (fun _ => False) s.heap s.heap [] := va_S.rf
  have hl := lv_entry ([.ref (a 1), .int x1]) (n := 4) (Nat.le_of_ble_eq_true rfl)
  rw [lg_entry_eq]
  generalize (lg_sl ([.ref (a 1), .int x1]) ++ List.replicate (4 - (lg_sl ([.ref (a 1), .int x1])).length) Slot.unset).toArray = ls at hl ⊢
  have hl : lv_has ls 4 [(0, .ref (a 1)), (1, .int x1)] := hl
  refine oh_genQ (fun Q hQ => ?_)
  refine lv_iconst (v := 0) hx hb dX0_countBridges_0 (by decide) ?_
  refine lv_istore_n (lv' := [(2, .int 0), (0, .ref (a 1)), (1, .int x1)]) hx hb dX0_countBridges_1 rfl hl (by decide) rfl (fun ls hl => ?_)
  refine lv_iconst (v := 0) hx hb dX0_countBridges_2 (by decide) ?_
  refine lv_istore_n (lv' := [(3, .int 0), (2, .int 0), (0, .ref (a 1)), (1, .int x1)]) hx hb dX0_countBridges_3 rfl hl (by decide) rfl (fun ls hl => ?_)
  have L_4 : ∀ (d : Nat) (z4_3 : Int32) (z4_2 : Int32) (ls : Array Slot), (16 - z4_3.toInt).toNat = d → rg z4_3 0 16 → lv_has ls 4 [(3, .int z4_3), (2, .int z4_2), (0, .ref (a 1)), (1, .int x1)] → W p l e ({ frames := 1, cells := 0, slots := 0, locals := 22 }) s m (([.ref (a 1), .int x1] : List Value).toArray) below meth c s.heap [] 0 0 Q (F0 m 4 ls []) := by
    intro d
    induction d using Nat.strongRecOn with
    | ind d ih_4 =>
    intro z4_3 z4_2 ls hd_4 hz4_3 hl
    refine lv_iload_n hx hb dX0_countBridges_4 rfl (lv_at hl 0 rfl) ?_
    refine lv_aload_n hx hb dX0_countBridges_5 rfl (lv_at hl 2 rfl) ?_
    refine va_get (D := D) (ci := 0) (v := .ref (a 10)) (C := RX0) (T := TX0) (N := 8) hx hb htg ig_0 hown hK hP 1 (oh_wg (by decide) (sX_1 hT)) rfl 0 (by decide) (htg _ q_97) (fun _ h9 => h9) rfl dX0_countBridges_6 ?_
    refine lv_iconst (v := 1) hx hb dX0_countBridges_9 (by decide) ?_
    refine th_iald hx hb hK hP 10 (by decide) (sX_10 hT) (rg_in (rg_c (v := 1) (lo := 1) (hi := 1) (by decide)) (by decide)) dX0_countBridges_10 ?_
    refine lv_icmp_ge (tgt := 29) hx hb dX0_countBridges_11 (by decide) (fun (c_1 : (ga (C 10) ((1 : Int32)).toNatClampNeg) ≤ z4_3) => ?_) (fun (c_1 : ¬ ((ga (C 10) ((1 : Int32)).toNatClampNeg) ≤ z4_3)) => ?_)
    · refine lv_iload_n hx hb dX0_countBridges_29 rfl (lv_at hl 1 rfl) ?_
      rw [hQ]
      exact W.iret (v := z4_2) hx hb hr (fun t ht hW => ⟨z4_2, rfl, trivial, ht⟩) (fun q h => by cases h) dX0_countBridges_30
    · refine lv_iload_n hx hb dX0_countBridges_14 rfl (lv_at hl 1 rfl) ?_
      refine lv_aload_n hx hb dX0_countBridges_15 rfl (lv_at hl 2 rfl) ?_
      refine lv_iload_n hx hb dX0_countBridges_16 rfl (lv_at hl 0 rfl) ?_
      refine lv_iload_n hx hb dX0_countBridges_17 rfl (lv_at hl 3 rfl) ?_
      refine tq_V (As := [.int z4_3, .int x1]) (rest := [.int z4_2]) (ws := (oh_W 35 a C)) ⟨hx, hb, hml, hown, htg⟩ (c_X0_ofBridge l D E G a C hT z4_3 x1 (rg_w (rn_ltu (u' := 15) (Int32.not_le.mp c_1) hz4_3 (tA_rdc (lo := 0) (hi := 16) (tX_10 hT0) (rg_in (rg_c (v := 1) (lo := 1) (hi := 1) (by decide)) (by decide)) (show _ = 1 by decide) (by decide)) (by decide)) (by decide)) (rg_w hx1 (by decide))) (cwV 2 htg (oh_gV q_384 q_385 q_386 q_67 q_387) rfl rfl rfl pdVX0_ofBridge ⟨Nat.le_of_ble_eq_true rfl, Nat.le_of_ble_eq_true rfl⟩) hK hP hG hS (va_recv hK hP (ci := 0) (q0 := 1) rfl (oh_wg (by decide) (sX_1 hT))) rfl hl.1 rfl (Nat.le_of_ble_eq_true rfl) dX0_countBridges_18 ⟨Nat.le_of_ble_eq_true rfl, Nat.le_of_ble_eq_true rfl⟩ (fun r_2 hq_3 => ?_)
      subst hq_3
      refine lv_iadd hx hb dX0_countBridges_21 ?_
      refine lv_istore_n (lv' := [(2, .int (z4_2 + (ga (C 12) ((z4_3 * 10) + x1).toNatClampNeg))), (3, .int z4_3), (0, .ref (a 1)), (1, .int x1)]) hx hb dX0_countBridges_22 rfl hl (by decide) rfl (fun ls hl => ?_)
      refine lv_iinc (v := z4_3 + 1) (lv' := [(3, .int (z4_3 + 1)), (2, .int (z4_2 + (ga (C 12) ((z4_3 * 10) + x1).toNatClampNeg))), (0, .ref (a 1)), (1, .int x1)]) hx hb dX0_countBridges_23 hl (k := 1) rfl (by rfl) (by decide) rfl (fun ls hl => ?_)
      refine lv_goto (tgt := 4) hx hb dX0_countBridges_26 (by decide) ?_
      exact ih_4 _ (hd_4 ▸ mu_up 16 (rn_ltu (u' := 15) (Int32.not_le.mp c_1) hz4_3 (tA_rdc (lo := 0) (hi := 16) (tX_10 hT0) (rg_in (rg_c (v := 1) (lo := 1) (hi := 1) (by decide)) (by decide)) (show _ = 1 by decide) (by decide)) (by decide)) (by decide)) (z4_3 + 1) (z4_2 + (ga (C 12) ((z4_3 * 10) + x1).toNatClampNeg)) ls rfl (rg_w (rg_add (lo := 1) (hi := 16) (rn_ltu (u' := 15) (Int32.not_le.mp c_1) hz4_3 (tA_rdc (lo := 0) (hi := 16) (tX_10 hT0) (rg_in (rg_c (v := 1) (lo := 1) (hi := 1) (by decide)) (by decide)) (show _ = 1 by decide) (by decide)) (by decide)) (rg_c (v := 1) (lo := 1) (hi := 1) (by decide)) (by decide)) (by decide)) (lv_sub hl [0, 1, 2, 3] rfl)
  exact L_4 _ 0 0 ls rfl (rg_w (rg_c (v := 0) (lo := 0) (hi := 0) (by decide)) (by decide)) (lv_sub hl [0, 1, 2, 3] rfl)

set_option maxHeartbeats 4000000 in
set_option maxRecDepth 100000 in
theorem c_X0_waggonLength (l : Launch) (D : va_G) (E : Nat → ClassId) (G : Nat → Nat) (a : Nat → Nat) (C : Nat → va_E) (hT : TyX a E C) (x1 : Int32) (hx1 : rg x1 0 4) : Met l yX0_waggonLength (oh_w yX0_waggonLength cX0_waggonLength 2 (some .int)) ({ frames := 1, cells := 0, slots := 0, locals := 22 }) (oh_Pp D E G [.ref (a 1), .int x1] (oh_W 35 a C)) (vp_Si (fun r => True)) 0 0 (fun _ => False) := by
  refine Met.ofW (cc := cX0_waggonLength) (maxL := 2) (ret := (some .int)) (by decide) rfl ?_
  intro p e s m args below meth c s₁ B hml hv
  obtain ⟨rfl, hP, hK, hG⟩ := hv
  have hx := B.exec
  have hb := B.bytes
  have hr := B.returns
  have hts := atoms_spec (ws := (oh_w yX0_waggonLength cX0_waggonLength 2 (some .int))) B.pre
  have htg : ∀ w ∈ oh_t, w.before _ s = true := fun w h => hts w (List.mem_cons_of_mem _ h)
  have hown : s.vm.findClass RX0 = some m.cls := findClass_of_methodNamed B.named
  have hlocks := B.notSynchronized
  have hT0 := hT
  have hS : va_S (fun _ => False) s.heap s.heap [] := va_S.rf
  have hl := lv_entry ([.ref (a 1), .int x1]) (n := 2) (Nat.le_of_ble_eq_true rfl)
  rw [lg_entry_eq]
  generalize (lg_sl ([.ref (a 1), .int x1]) ++ List.replicate (2 - (lg_sl ([.ref (a 1), .int x1])).length) Slot.unset).toArray = ls at hl ⊢
  have hl : lv_has ls 2 [(0, .ref (a 1)), (1, .int x1)] := hl
  refine oh_genQ (fun Q hQ => ?_)
  refine lv_aload_n hx hb dX0_waggonLength_0 rfl (lv_at hl 0 rfl) ?_
  refine lv_iload_n hx hb dX0_waggonLength_1 rfl (lv_at hl 1 rfl) ?_
  refine lv_iconst (v := 1) hx hb dX0_waggonLength_2 (by decide) ?_
  refine tq_V (As := [.int x1, .int 1]) (rest := []) (ws := (oh_W 35 a C)) ⟨hx, hb, hml, hown, htg⟩ (c_X0_ofWaggon l D E G a C hT x1 (1 : Int32) (rg_w hx1 (by decide)) (rg_w (rg_c (v := 1) (lo := 1) (hi := 1) (by decide)) (by decide))) (cwV 2 htg (oh_gV q_687 q_688 q_689 q_67 q_690) rfl rfl rfl pdVX0_ofWaggon ⟨Nat.le_of_ble_eq_true rfl, Nat.le_of_ble_eq_true rfl⟩) hK hP hG hS (va_recv hK hP (ci := 0) (q0 := 1) rfl (oh_wg (by decide) (sX_1 hT))) rfl hl.1 rfl (Nat.le_of_ble_eq_true rfl) dX0_waggonLength_3 ⟨Nat.le_of_ble_eq_true rfl, Nat.le_of_ble_eq_true rfl⟩ (fun r_1 hq_2 => ?_)
  subst hq_2
  refine lv_aload_n hx hb dX0_waggonLength_6 rfl (lv_at hl 0 rfl) ?_
  refine lv_iload_n hx hb dX0_waggonLength_7 rfl (lv_at hl 1 rfl) ?_
  refine lv_iconst (v := 0) hx hb dX0_waggonLength_8 (by decide) ?_
  refine tq_V (As := [.int x1, .int 0]) (rest := [.int (ga (C 13) ((x1 * 3) + 1).toNatClampNeg)]) (ws := (oh_W 35 a C)) ⟨hx, hb, hml, hown, htg⟩ (c_X0_ofWaggon l D E G a C hT x1 (0 : Int32) (rg_w hx1 (by decide)) (rg_w (rg_c (v := 0) (lo := 0) (hi := 0) (by decide)) (by decide))) (cwV 2 htg (oh_gV q_687 q_688 q_689 q_67 q_690) rfl rfl rfl pdVX0_ofWaggon ⟨Nat.le_of_ble_eq_true rfl, Nat.le_of_ble_eq_true rfl⟩) hK hP hG hS (va_recv hK hP (ci := 0) (q0 := 1) rfl (oh_wg (by decide) (sX_1 hT))) rfl hl.1 rfl (Nat.le_of_ble_eq_true rfl) dX0_waggonLength_9 ⟨Nat.le_of_ble_eq_true rfl, Nat.le_of_ble_eq_true rfl⟩ (fun r_3 hq_4 => ?_)
  subst hq_4
  refine lv_iconst (v := 1) hx hb dX0_waggonLength_12 (by decide) ?_
  refine lv_isub hx hb dX0_waggonLength_13 ?_
  refine lv_imul hx hb dX0_waggonLength_14 ?_
  refine lv_iconst (v := 4) hx hb dX0_waggonLength_15 (by decide) ?_
  refine lv_iadd hx hb dX0_waggonLength_16 ?_
  rw [hQ]
  exact W.iret (v := ((ga (C 13) ((x1 * 3) + 1).toNatClampNeg) * ((ga (C 13) ((x1 * 3) + 0).toNatClampNeg) - 1)) + 4) hx hb hr (fun t ht hW => ⟨((ga (C 13) ((x1 * 3) + 1).toNatClampNeg) * ((ga (C 13) ((x1 * 3) + 0).toNatClampNeg) - 1)) + 4, rfl, trivial, ht⟩) (fun q h => by cases h) dX0_waggonLength_17

set_option maxHeartbeats 4000000 in
set_option maxRecDepth 100000 in
theorem c_X0_sumOfParts (l : Launch) (D : va_G) (E : Nat → ClassId) (G : Nat → Nat) (a : Nat → Nat) (C : Nat → va_E) (hT : TyX a E C) (x1 : Int32) (x2 : Int32) (hx2 : rg x2 0 1) : Met l yX0_sumOfParts (oh_w yX0_sumOfParts cX0_sumOfParts 5 (some .int)) ({ frames := 0, cells := 0, slots := 0, locals := 0 }) (oh_Pp D E G [.ref (a 1), .int x1, .int x2] (oh_W 35 a C)) (vp_Si (fun r => True)) 0 0 (fun _ => False) := by
  refine Met.ofW (cc := cX0_sumOfParts) (maxL := 5) (ret := (some .int)) (by decide) rfl ?_
  intro p e s m args below meth c s₁ B hml hv
  obtain ⟨rfl, hP, hK, hG⟩ := hv
  have hx := B.exec
  have hb := B.bytes
  have hr := B.returns
  have hts := atoms_spec (ws := (oh_w yX0_sumOfParts cX0_sumOfParts 5 (some .int))) B.pre
  have htg : ∀ w ∈ oh_t, w.before _ s = true := fun w h => hts w (List.mem_cons_of_mem _ h)
  have hown : s.vm.findClass RX0 = some m.cls := findClass_of_methodNamed B.named
  have hlocks := B.notSynchronized
  have hT0 := hT
  have hS : va_S (fun _ => False) s.heap s.heap [] := va_S.rf
  have hl := lv_entry ([.ref (a 1), .int x1, .int x2]) (n := 5) (Nat.le_of_ble_eq_true rfl)
  rw [lg_entry_eq]
  generalize (lg_sl ([.ref (a 1), .int x1, .int x2]) ++ List.replicate (5 - (lg_sl ([.ref (a 1), .int x1, .int x2])).length) Slot.unset).toArray = ls at hl ⊢
  have hl : lv_has ls 5 [(0, .ref (a 1)), (1, .int x1), (2, .int x2)] := hl
  refine oh_genQ (fun Q hQ => ?_)
  refine lv_iconst (v := 0) hx hb dX0_sumOfParts_0 (by decide) ?_
  refine lv_istore_n (lv' := [(3, .int 0), (0, .ref (a 1)), (1, .int x1), (2, .int x2)]) hx hb dX0_sumOfParts_1 rfl hl (by decide) rfl (fun ls hl => ?_)
  refine lv_iconst (v := 0) hx hb dX0_sumOfParts_2 (by decide) ?_
  refine lv_istore (lv' := [(4, .int 0), (3, .int 0), (0, .ref (a 1)), (1, .int x1), (2, .int x2)]) hx hb dX0_sumOfParts_3 hl (by decide) rfl (fun ls hl => ?_)
  have L_5 : ∀ (d : Nat) (z5_4 : Int32) (z5_3 : Int32) (ls : Array Slot), (5 - z5_4.toInt).toNat = d → rg z5_4 0 5 → lv_has ls 5 [(4, .int z5_4), (3, .int z5_3), (0, .ref (a 1)), (1, .int x1), (2, .int x2)] → W p l e ({ frames := 0, cells := 0, slots := 0, locals := 0 }) s m (([.ref (a 1), .int x1, .int x2] : List Value).toArray) below meth c s.heap [] 0 0 Q (F0 m 5 ls []) := by
    intro d
    induction d using Nat.strongRecOn with
    | ind d ih_5 =>
    intro z5_4 z5_3 ls hd_5 hz5_4 hl
    refine lv_iload hx hb dX0_sumOfParts_5 (lv_at hl 0 rfl) ?_
    refine lv_aload_n hx hb dX0_sumOfParts_7 rfl (lv_at hl 2 rfl) ?_
    refine va_get (D := D) (ci := 0) (v := .ref (a 10)) (C := RX0) (T := TX0) (N := 8) hx hb htg ig_0 hown hK hP 1 (oh_wg (by decide) (sX_1 hT)) rfl 0 (by decide) (htg _ q_97) (fun _ h9 => h9) rfl dX0_sumOfParts_8 ?_
    refine lv_iconst (v := 3) hx hb dX0_sumOfParts_11 (by decide) ?_
    refine th_iald hx hb hK hP 10 (by decide) (sX_10 hT) (rg_in (rg_c (v := 3) (lo := 3) (hi := 3) (by decide)) (by decide)) dX0_sumOfParts_12 ?_
    refine lv_icmp_ge (tgt := 46) hx hb dX0_sumOfParts_13 (by decide) (fun (c_1 : (ga (C 10) ((3 : Int32)).toNatClampNeg) ≤ z5_4) => ?_) (fun (c_1 : ¬ ((ga (C 10) ((3 : Int32)).toNatClampNeg) ≤ z5_4)) => ?_)
    · refine lv_iload_n hx hb dX0_sumOfParts_46 rfl (lv_at hl 1 rfl) ?_
      rw [hQ]
      exact W.iret (v := z5_3) hx hb hr (fun t ht hW => ⟨z5_3, rfl, trivial, ht⟩) (fun q h => by cases h) dX0_sumOfParts_47
    · refine lv_iload_n hx hb dX0_sumOfParts_16 rfl (lv_at hl 3 rfl) ?_
      refine lv_iload hx hb dX0_sumOfParts_17 (lv_at hl 0 rfl) ?_
      refine lv_ishr hx hb dX0_sumOfParts_19 ?_
      refine lv_iconst (v := 1) hx hb dX0_sumOfParts_20 (by decide) ?_
      refine lv_iand hx hb dX0_sumOfParts_21 ?_
      refine lv_iconst (v := 1) hx hb dX0_sumOfParts_22 (by decide) ?_
      refine lv_icmp_ne (tgt := 40) hx hb dX0_sumOfParts_23 (by decide) (fun (c_2 : ¬ (((x1 >>> (z5_4 &&& 31)) &&& 1) = 1)) => ?_) (fun (c_2 : ((x1 >>> (z5_4 &&& 31)) &&& 1) = 1) => ?_)
      · refine lv_iinc (v := z5_4 + 1) (lv' := [(4, .int (z5_4 + 1)), (3, .int z5_3), (0, .ref (a 1)), (1, .int x1), (2, .int x2)]) hx hb dX0_sumOfParts_40 hl (k := 0) rfl (by rfl) (by decide) rfl (fun ls hl => ?_)
        refine lv_goto (tgt := 5) hx hb dX0_sumOfParts_43 (by decide) ?_
        exact ih_5 _ (hd_5 ▸ mu_up 5 (rn_ltu (u' := 4) (Int32.not_le.mp c_1) hz5_4 (tA_rdc (lo := 0) (hi := 5) (tX_10 hT0) (rg_in (rg_c (v := 3) (lo := 3) (hi := 3) (by decide)) (by decide)) (show _ = 3 by decide) (by decide)) (by decide)) (by decide)) (z5_4 + 1) z5_3 ls rfl (rg_w (rg_add (lo := 1) (hi := 5) (rn_ltu (u' := 4) (Int32.not_le.mp c_1) hz5_4 (tA_rdc (lo := 0) (hi := 5) (tX_10 hT0) (rg_in (rg_c (v := 3) (lo := 3) (hi := 3) (by decide)) (by decide)) (show _ = 3 by decide) (by decide)) (by decide)) (rg_c (v := 1) (lo := 1) (hi := 1) (by decide)) (by decide)) (by decide)) (lv_sub hl [0, 1, 2, 3, 4] rfl)
      · refine lv_iload_n hx hb dX0_sumOfParts_26 rfl (lv_at hl 1 rfl) ?_
        refine lv_aload_n hx hb dX0_sumOfParts_27 rfl (lv_at hl 2 rfl) ?_
        refine va_get (D := D) (ci := 0) (v := .ref (a 14)) (C := RX0) (T := TX0) (N := 8) hx hb htg ig_0 hown hK hP 1 (oh_wg (by decide) (sX_1 hT)) rfl 4 (by decide) (htg _ q_105) (fun _ h9 => h9) rfl dX0_sumOfParts_28 ?_
        refine lv_iload hx hb dX0_sumOfParts_31 (lv_at hl 0 rfl) ?_
        refine lv_iconst (v := 2) hx hb dX0_sumOfParts_33 (by decide) ?_
        refine lv_imul hx hb dX0_sumOfParts_34 ?_
        refine lv_iload_n hx hb dX0_sumOfParts_35 rfl (lv_at hl 4 rfl) ?_
        refine lv_iadd hx hb dX0_sumOfParts_36 ?_
        have n_3 : vp_in ((z5_4 * 2) + x2) 10 := (rg_in (rg_add (lo := 0) (hi := 9) (rg_mul (lo := 0) (hi := 8) (rn_ltu (u' := 4) (Int32.not_le.mp c_1) hz5_4 (tA_rdc (lo := 0) (hi := 5) (tX_10 hT0) (rg_in (rg_c (v := 3) (lo := 3) (hi := 3) (by decide)) (by decide)) (show _ = 3 by decide) (by decide)) (by decide)) (rg_c (v := 2) (lo := 2) (hi := 2) (by decide)) (by decide)) hx2 (by decide)) (by decide))
        refine th_iald hx hb hK hP 14 (by decide) (sX_14 hT) n_3 dX0_sumOfParts_37 ?_
        refine lv_iadd hx hb dX0_sumOfParts_38 ?_
        refine lv_istore_n (lv' := [(3, .int (z5_3 + (ga (C 14) ((z5_4 * 2) + x2).toNatClampNeg))), (4, .int z5_4), (0, .ref (a 1)), (1, .int x1), (2, .int x2)]) hx hb dX0_sumOfParts_39 rfl hl (by decide) rfl (fun ls hl => ?_)
        refine lv_iinc (v := z5_4 + 1) (lv' := [(4, .int (z5_4 + 1)), (3, .int (z5_3 + (ga (C 14) ((z5_4 * 2) + x2).toNatClampNeg))), (0, .ref (a 1)), (1, .int x1), (2, .int x2)]) hx hb dX0_sumOfParts_40 hl (k := 1) rfl (by rfl) (by decide) rfl (fun ls hl => ?_)
        refine lv_goto (tgt := 5) hx hb dX0_sumOfParts_43 (by decide) ?_
        exact ih_5 _ (hd_5 ▸ mu_up 5 (rn_ltu (u' := 4) (Int32.not_le.mp c_1) hz5_4 (tA_rdc (lo := 0) (hi := 5) (tX_10 hT0) (rg_in (rg_c (v := 3) (lo := 3) (hi := 3) (by decide)) (by decide)) (show _ = 3 by decide) (by decide)) (by decide)) (by decide)) (z5_4 + 1) (z5_3 + (ga (C 14) ((z5_4 * 2) + x2).toNatClampNeg)) ls rfl (rg_w (rg_add (lo := 1) (hi := 5) (rn_ltu (u' := 4) (Int32.not_le.mp c_1) hz5_4 (tA_rdc (lo := 0) (hi := 5) (tX_10 hT0) (rg_in (rg_c (v := 3) (lo := 3) (hi := 3) (by decide)) (by decide)) (show _ = 3 by decide) (by decide)) (by decide)) (rg_c (v := 1) (lo := 1) (hi := 1) (by decide)) (by decide)) (by decide)) (lv_sub hl [0, 1, 2, 3, 4] rfl)
  exact L_5 _ 0 0 ls rfl (rg_w (rg_c (v := 0) (lo := 0) (hi := 0) (by decide)) (by decide)) (lv_sub hl [0, 1, 2, 3, 4] rfl)

set_option maxHeartbeats 4000000 in
set_option maxRecDepth 100000 in
theorem c_X0_isPropped (l : Launch) (D : va_G) (E : Nat → ClassId) (G : Nat → Nat) (a : Nat → Nat) (C : Nat → va_E) (hT : TyX a E C) (x1 : Int32) (hx1 : rg x1 0 15) : Met l yX0_isPropped (oh_w yX0_isPropped cX0_isPropped 2 (some .boolean)) ({ frames := 1, cells := 0, slots := 0, locals := 22 }) (oh_Pp D E G [.ref (a 1), .int x1] (oh_W 35 a C)) (vp_Si (fun r => (r = 0 ∨ r = 1))) 0 0 (fun _ => False) := by
  refine Met.ofW (cc := cX0_isPropped) (maxL := 2) (ret := (some .boolean)) (by decide) rfl ?_
  intro p e s m args below meth c s₁ B hml hv
  obtain ⟨rfl, hP, hK, hG⟩ := hv
  have hx := B.exec
  have hb := B.bytes
  have hr := B.returns
  have hts := atoms_spec (ws := (oh_w yX0_isPropped cX0_isPropped 2 (some .boolean))) B.pre
  have htg : ∀ w ∈ oh_t, w.before _ s = true := fun w h => hts w (List.mem_cons_of_mem _ h)
  have hown : s.vm.findClass RX0 = some m.cls := findClass_of_methodNamed B.named
  have hlocks := B.notSynchronized
  have hT0 := hT
  have hS : va_S (fun _ => False) s.heap s.heap [] := va_S.rf
  have hl := lv_entry ([.ref (a 1), .int x1]) (n := 2) (Nat.le_of_ble_eq_true rfl)
  rw [lg_entry_eq]
  generalize (lg_sl ([.ref (a 1), .int x1]) ++ List.replicate (2 - (lg_sl ([.ref (a 1), .int x1])).length) Slot.unset).toArray = ls at hl ⊢
  have hl : lv_has ls 2 [(0, .ref (a 1)), (1, .int x1)] := hl
  refine oh_genQ (fun Q hQ => ?_)
  refine lv_aload_n hx hb dX0_isPropped_0 rfl (lv_at hl 0 rfl) ?_
  refine lv_iload_n hx hb dX0_isPropped_1 rfl (lv_at hl 1 rfl) ?_
  refine lv_bipush (v := 7) hx hb dX0_isPropped_2 (by decide) ?_
  refine tq_V (As := [.int x1, .int 7]) (rest := []) (ws := (oh_W 35 a C)) ⟨hx, hb, hml, hown, htg⟩ (c_X0_ofBridge l D E G a C hT x1 (7 : Int32) (rg_w hx1 (by decide)) (rg_w (rg_c (v := 7) (lo := 7) (hi := 7) (by decide)) (by decide))) (cwV 2 htg (oh_gV q_384 q_385 q_386 q_67 q_387) rfl rfl rfl pdVX0_ofBridge ⟨Nat.le_of_ble_eq_true rfl, Nat.le_of_ble_eq_true rfl⟩) hK hP hG hS (va_recv hK hP (ci := 0) (q0 := 1) rfl (oh_wg (by decide) (sX_1 hT))) rfl hl.1 rfl (Nat.le_of_ble_eq_true rfl) dX0_isPropped_4 ⟨Nat.le_of_ble_eq_true rfl, Nat.le_of_ble_eq_true rfl⟩ (fun r_1 hq_2 => ?_)
  subst hq_2
  refine lv_iconst (v := 1) hx hb dX0_isPropped_7 (by decide) ?_
  refine lv_icmp_ne (tgt := 15) hx hb dX0_isPropped_8 (by decide) (fun (c_3 : ¬ ((ga (C 12) ((x1 * 10) + 7).toNatClampNeg) = 1)) => ?_) (fun (c_3 : (ga (C 12) ((x1 * 10) + 7).toNatClampNeg) = 1) => ?_)
  · refine lv_iconst (v := 0) hx hb dX0_isPropped_15 (by decide) ?_
    rw [hQ]
    exact W.zret (v := 0) (ty := .boolean) hx hb hr (by decide) (fun t ht hW => ⟨0, rfl, (Or.inl rfl), ht⟩) (fun q h => by cases h) dX0_isPropped_16
  · refine lv_iconst (v := 1) hx hb dX0_isPropped_11 (by decide) ?_
    refine lv_goto (tgt := 16) hx hb dX0_isPropped_12 (by decide) ?_
    rw [hQ]
    exact W.zret (v := 1) (ty := .boolean) hx hb hr (by decide) (fun t ht hW => ⟨1, rfl, (Or.inr rfl), ht⟩) (fun q h => by cases h) dX0_isPropped_16

set_option maxHeartbeats 4000000 in
set_option maxRecDepth 100000 in
theorem c_X0_mayBeTakenFor (l : Launch) (D : va_G) (E : Nat → ClassId) (G : Nat → Nat) (a : Nat → Nat) (C : Nat → va_E) (hT : TyX a E C) (x1 : Int32) (x2 : Int32) (hx1 : rg x1 0 15) : Met l yX0_mayBeTakenFor (oh_w yX0_mayBeTakenFor cX0_mayBeTakenFor 3 (some .boolean)) ({ frames := 1, cells := 0, slots := 0, locals := 22 }) (oh_Pp D E G [.ref (a 1), .int x1, .int x2] (oh_W 35 a C)) (vp_Si (fun r => (r = 0 ∨ r = 1))) 0 0 (fun _ => False) := by
  refine Met.ofW (cc := cX0_mayBeTakenFor) (maxL := 3) (ret := (some .boolean)) (by decide) rfl ?_
  intro p e s m args below meth c s₁ B hml hv
  obtain ⟨rfl, hP, hK, hG⟩ := hv
  have hx := B.exec
  have hb := B.bytes
  have hr := B.returns
  have hts := atoms_spec (ws := (oh_w yX0_mayBeTakenFor cX0_mayBeTakenFor 3 (some .boolean))) B.pre
  have htg : ∀ w ∈ oh_t, w.before _ s = true := fun w h => hts w (List.mem_cons_of_mem _ h)
  have hown : s.vm.findClass RX0 = some m.cls := findClass_of_methodNamed B.named
  have hlocks := B.notSynchronized
  have hT0 := hT
  have hS : va_S (fun _ => False) s.heap s.heap [] := va_S.rf
  have hl := lv_entry ([.ref (a 1), .int x1, .int x2]) (n := 3) (Nat.le_of_ble_eq_true rfl)
  rw [lg_entry_eq]
  generalize (lg_sl ([.ref (a 1), .int x1, .int x2]) ++ List.replicate (3 - (lg_sl ([.ref (a 1), .int x1, .int x2])).length) Slot.unset).toArray = ls at hl ⊢
  have hl : lv_has ls 3 [(0, .ref (a 1)), (1, .int x1), (2, .int x2)] := hl
  refine oh_genQ (fun Q hQ => ?_)
  refine va_getsN hx hb hG.2.2.2.2.2.1.1 hS hown (va_Nw.use rfl (hG.2.1 ("OneHeavyLoad$Land", 57, "OneHeavyLoad", "TAKEN_FOR", "[I", "OneHeavyLoad") (List.mem_of_getElem? (i := 3) rfl))) (fun _ h9 => h9) dX0_mayBeTakenFor_0 ?_
  refine lv_aload_n hx hb dX0_mayBeTakenFor_3 rfl (lv_at hl 0 rfl) ?_
  refine lv_iload_n hx hb dX0_mayBeTakenFor_4 rfl (lv_at hl 1 rfl) ?_
  refine lv_iconst (v := 1) hx hb dX0_mayBeTakenFor_5 (by decide) ?_
  refine tq_V (As := [.int x1, .int 1]) (rest := [.ref (G 2)]) (ws := (oh_W 35 a C)) ⟨hx, hb, hml, hown, htg⟩ (c_X0_ofBridge l D E G a C hT x1 (1 : Int32) (rg_w hx1 (by decide)) (rg_w (rg_c (v := 1) (lo := 1) (hi := 1) (by decide)) (by decide))) (cwV 2 htg (oh_gV q_384 q_385 q_386 q_67 q_387) rfl rfl rfl pdVX0_ofBridge ⟨Nat.le_of_ble_eq_true rfl, Nat.le_of_ble_eq_true rfl⟩) hK hP hG hS (va_recv hK hP (ci := 0) (q0 := 1) rfl (oh_wg (by decide) (sX_1 hT))) rfl hl.1 rfl (Nat.le_of_ble_eq_true rfl) dX0_mayBeTakenFor_6 ⟨Nat.le_of_ble_eq_true rfl, Nat.le_of_ble_eq_true rfl⟩ (fun r_1 hq_2 => ?_)
  subst hq_2
  refine va_ti (v := .int (oh_tak (ga (C 12) ((x1 * 10) + 1).toNatClampNeg).toNatClampNeg)) hx hb hG.2.2.2.2.2.1.2 hS (rg_in (tA_rdc (lo := 0) (hi := 5) (tX_12 hT0) (rg_in (rg_add (lo := 1) (hi := 151) (rg_mul (lo := 0) (hi := 150) hx1 (rg_c (v := 10) (lo := 10) (hi := 10) (by decide)) (by decide)) (rg_c (v := 1) (lo := 1) (hi := 1) (by decide)) (by decide)) (by decide)) (oh_col (W := 10) hx1 rfl (rg_c (v := 1) (lo := 1) (hi := 1) (by decide)) (by decide)) (by decide)) (by decide)) rfl dX0_mayBeTakenFor_9 ?_
  refine lv_iload_n hx hb dX0_mayBeTakenFor_10 rfl (lv_at hl 2 rfl) ?_
  refine lv_ishr hx hb dX0_mayBeTakenFor_11 ?_
  refine lv_iconst (v := 1) hx hb dX0_mayBeTakenFor_12 (by decide) ?_
  refine lv_iand hx hb dX0_mayBeTakenFor_13 ?_
  refine lv_iconst (v := 1) hx hb dX0_mayBeTakenFor_14 (by decide) ?_
  refine lv_icmp_ne (tgt := 22) hx hb dX0_mayBeTakenFor_15 (by decide) (fun (c_3 : ¬ ((((oh_tak (ga (C 12) ((x1 * 10) + 1).toNatClampNeg).toNatClampNeg) >>> (x2 &&& 31)) &&& 1) = 1)) => ?_) (fun (c_3 : (((oh_tak (ga (C 12) ((x1 * 10) + 1).toNatClampNeg).toNatClampNeg) >>> (x2 &&& 31)) &&& 1) = 1) => ?_)
  · refine lv_iconst (v := 0) hx hb dX0_mayBeTakenFor_22 (by decide) ?_
    rw [hQ]
    exact W.zret (v := 0) (ty := .boolean) hx hb hr (by decide) (fun t ht hW => ⟨0, rfl, (Or.inl rfl), ht⟩) (fun q h => by cases h) dX0_mayBeTakenFor_23
  · refine lv_iconst (v := 1) hx hb dX0_mayBeTakenFor_18 (by decide) ?_
    refine lv_goto (tgt := 23) hx hb dX0_mayBeTakenFor_19 (by decide) ?_
    rw [hQ]
    exact W.zret (v := 1) (ty := .boolean) hx hb hr (by decide) (fun t ht hW => ⟨1, rfl, (Or.inr rfl), ht⟩) (fun q h => by cases h) dX0_mayBeTakenFor_23

set_option maxHeartbeats 4000000 in
set_option maxRecDepth 100000 in
theorem c_X0_believed (l : Launch) (D : va_G) (E : Nat → ClassId) (G : Nat → Nat) (a : Nat → Nat) (C : Nat → va_E) (hT : TyX a E C) (x1 : Int32) (x2 : Int32) (hx1 : rg x1 0 150) : Met l yX0_believed (oh_w yX0_believed cX0_believed 5 (some .int)) ({ frames := 0, cells := 0, slots := 0, locals := 0 }) (oh_Pp D E G [.ref (a 1), .int x1, .int x2] (oh_W 35 a C)) (vp_Si (fun r => True)) 0 0 (fun _ => False) := by
  refine Met.ofW (cc := cX0_believed) (maxL := 5) (ret := (some .int)) (by decide) rfl ?_
  intro p e s m args below meth c s₁ B hml hv
  obtain ⟨rfl, hP, hK, hG⟩ := hv
  have hx := B.exec
  have hb := B.bytes
  have hr := B.returns
  have hts := atoms_spec (ws := (oh_w yX0_believed cX0_believed 5 (some .int))) B.pre
  have htg : ∀ w ∈ oh_t, w.before _ s = true := fun w h => hts w (List.mem_cons_of_mem _ h)
  have hown : s.vm.findClass RX0 = some m.cls := findClass_of_methodNamed B.named
  have hlocks := B.notSynchronized
  have hT0 := hT
  have hS : va_S (fun _ => False) s.heap s.heap [] := va_S.rf
  have hl := lv_entry ([.ref (a 1), .int x1, .int x2]) (n := 5) (Nat.le_of_ble_eq_true rfl)
  rw [lg_entry_eq]
  generalize (lg_sl ([.ref (a 1), .int x1, .int x2]) ++ List.replicate (5 - (lg_sl ([.ref (a 1), .int x1, .int x2])).length) Slot.unset).toArray = ls at hl ⊢
  have hl : lv_has ls 5 [(0, .ref (a 1)), (1, .int x1), (2, .int x2)] := hl
  refine oh_genQ (fun Q hQ => ?_)
  refine lv_aload_n hx hb dX0_believed_0 rfl (lv_at hl 0 rfl) ?_
  refine va_get (D := D) (ci := 0) (v := .ref (a 12)) (C := RX0) (T := TX0) (N := 8) hx hb htg ig_0 hown hK hP 1 (oh_wg (by decide) (sX_1 hT)) rfl 2 (by decide) (htg _ q_103) (fun _ h9 => h9) rfl dX0_believed_1 ?_
  refine lv_iload_n hx hb dX0_believed_4 rfl (lv_at hl 1 rfl) ?_
  refine lv_iconst (v := 1) hx hb dX0_believed_5 (by decide) ?_
  refine lv_iadd hx hb dX0_believed_6 ?_
  have n_1 : vp_in (x1 + 1) 160 := (rg_in (rg_add (lo := 1) (hi := 151) hx1 (rg_c (v := 1) (lo := 1) (hi := 1) (by decide)) (by decide)) (by decide))
  refine th_iald hx hb hK hP 12 (by decide) (sX_12 hT) n_1 dX0_believed_7 ?_
  refine lv_istore_n (lv' := [(3, .int (ga (C 12) (x1 + 1).toNatClampNeg)), (0, .ref (a 1)), (1, .int x1), (2, .int x2)]) hx hb dX0_believed_8 rfl hl (by decide) rfl (fun ls hl => ?_)
  refine lv_aload_n hx hb dX0_believed_9 rfl (lv_at hl 1 rfl) ?_
  refine va_get (D := D) (ci := 0) (v := .ref (a 12)) (C := RX0) (T := TX0) (N := 8) hx hb htg ig_0 hown hK hP 1 (oh_wg (by decide) (sX_1 hT)) rfl 2 (by decide) (htg _ q_103) (fun _ h9 => h9) rfl dX0_believed_10 ?_
  refine lv_iload_n hx hb dX0_believed_13 rfl (lv_at hl 2 rfl) ?_
  refine lv_bipush (v := 8) hx hb dX0_believed_14 (by decide) ?_
  refine lv_iadd hx hb dX0_believed_16 ?_
  have n_2 : vp_in (x1 + 8) 160 := (rg_in (rg_add (lo := 8) (hi := 158) hx1 (rg_c (v := 8) (lo := 8) (hi := 8) (by decide)) (by decide)) (by decide))
  refine th_iald hx hb hK hP 12 (by decide) (sX_12 hT) n_2 dX0_believed_17 ?_
  refine lv_iconst (v := 1) hx hb dX0_believed_18 (by decide) ?_
  refine lv_icmp_eq (tgt := 36) hx hb dX0_believed_19 (by decide) (fun (c_3 : (ga (C 12) (x1 + 8).toNatClampNeg) = 1) => ?_) (fun (c_3 : ¬ ((ga (C 12) (x1 + 8).toNatClampNeg) = 1)) => ?_)
  · refine lv_iconst (v := 0) hx hb dX0_believed_36 (by decide) ?_
    rw [hQ]
    exact W.iret (v := 0) hx hb hr (fun t ht hW => ⟨0, rfl, trivial, ht⟩) (fun q h => by cases h) dX0_believed_37
  · refine lv_iload_n hx hb dX0_believed_22 rfl (lv_at hl 0 rfl) ?_
    refine lv_iconst (v := 5) hx hb dX0_believed_23 (by decide) ?_
    refine lv_icmp_ne (tgt := 38) hx hb dX0_believed_24 (by decide) (fun (c_4 : ¬ ((ga (C 12) (x1 + 1).toNatClampNeg) = 5)) => ?_) (fun (c_4 : (ga (C 12) (x1 + 1).toNatClampNeg) = 5) => ?_)
    · refine lv_iload_n hx hb dX0_believed_38 rfl (lv_at hl 0 rfl) ?_
      refine lv_iconst (v := 4) hx hb dX0_believed_39 (by decide) ?_
      refine lv_icmp_eq (tgt := 48) hx hb dX0_believed_40 (by decide) (fun (c_5 : (ga (C 12) (x1 + 1).toNatClampNeg) = 4) => ?_) (fun (c_5 : ¬ ((ga (C 12) (x1 + 1).toNatClampNeg) = 4)) => ?_)
      · refine lv_iconst (v := 1) hx hb dX0_believed_48 (by decide) ?_
        refine lv_goto (tgt := 53) hx hb dX0_believed_49 (by decide) ?_
        refine lv_istore (lv' := [(4, .int 1), (3, .int (ga (C 12) (x1 + 1).toNatClampNeg)), (0, .ref (a 1)), (1, .int x1), (2, .int x2)]) hx hb dX0_believed_53 hl (by decide) rfl (fun ls hl => ?_)
        refine lv_iload hx hb dX0_believed_55 (lv_at hl 0 rfl) ?_
        refine lv_if_eq (tgt := 78) hx hb dX0_believed_57 (by decide) (fun c => absurd c (show ¬ ((1 : Int32) = 0) from by decide)) (fun _ => ?_)
        refine lv_aload_n hx hb dX0_believed_60 rfl (lv_at hl 2 rfl) ?_
        refine va_get (D := D) (ci := 0) (v := .ref (a 12)) (C := RX0) (T := TX0) (N := 8) hx hb htg ig_0 hown hK hP 1 (oh_wg (by decide) (sX_1 hT)) rfl 2 (by decide) (htg _ q_103) (fun _ h9 => h9) rfl dX0_believed_61 ?_
        refine lv_iload_n hx hb dX0_believed_64 rfl (lv_at hl 3 rfl) ?_
        refine lv_bipush (v := 9) hx hb dX0_believed_65 (by decide) ?_
        refine lv_iadd hx hb dX0_believed_67 ?_
        have n_6 : vp_in (x1 + 9) 160 := (rg_in (rg_add (lo := 9) (hi := 159) hx1 (rg_c (v := 9) (lo := 9) (hi := 9) (by decide)) (by decide)) (by decide))
        refine th_iald hx hb hK hP 12 (by decide) (sX_12 hT) n_6 dX0_believed_68 ?_
        refine lv_if_ne (tgt := 78) hx hb dX0_believed_69 (by decide) (fun (c_7 : ¬ ((ga (C 12) (x1 + 9).toNatClampNeg) = 0)) => ?_) (fun (c_7 : (ga (C 12) (x1 + 9).toNatClampNeg) = 0) => ?_)
        · refine lv_iload_n hx hb dX0_believed_78 rfl (lv_at hl 4 rfl) ?_
          rw [hQ]
          exact W.iret (v := x2) hx hb hr (fun t ht hW => ⟨x2, rfl, trivial, ht⟩) (fun q h => by cases h) dX0_believed_79
        · refine lv_iload_n hx hb dX0_believed_72 rfl (lv_at hl 4 rfl) ?_
          refine lv_iconst (v := 2) hx hb dX0_believed_73 (by decide) ?_
          refine lv_idiv hx hb dX0_believed_74 (by decide) ?_
          refine lv_goto (tgt := 79) hx hb dX0_believed_75 (by decide) ?_
          rw [hQ]
          exact W.iret (v := x2 / 2) hx hb hr (fun t ht hW => ⟨x2 / 2, rfl, trivial, ht⟩) (fun q h => by cases h) dX0_believed_79
      · refine lv_iload_n hx hb dX0_believed_43 rfl (lv_at hl 0 rfl) ?_
        refine lv_iconst (v := 5) hx hb dX0_believed_44 (by decide) ?_
        refine lv_icmp_ne (tgt := 52) hx hb dX0_believed_45 (by decide) (fun (c_8 : ¬ ((ga (C 12) (x1 + 1).toNatClampNeg) = 5)) => ?_) (fun (c_8 : (ga (C 12) (x1 + 1).toNatClampNeg) = 5) => ?_)
        · refine lv_iconst (v := 0) hx hb dX0_believed_52 (by decide) ?_
          refine lv_istore (lv' := [(4, .int 0), (3, .int (ga (C 12) (x1 + 1).toNatClampNeg)), (0, .ref (a 1)), (1, .int x1), (2, .int x2)]) hx hb dX0_believed_53 hl (by decide) rfl (fun ls hl => ?_)
          refine lv_iload hx hb dX0_believed_55 (lv_at hl 0 rfl) ?_
          refine lv_if_eq (tgt := 78) hx hb dX0_believed_57 (by decide) (fun _ => ?_) (fun c => absurd (show (0 : Int32) = 0 from by decide) c)
          refine lv_iload_n hx hb dX0_believed_78 rfl (lv_at hl 4 rfl) ?_
          rw [hQ]
          exact W.iret (v := x2) hx hb hr (fun t ht hW => ⟨x2, rfl, trivial, ht⟩) (fun q h => by cases h) dX0_believed_79
        · refine lv_iconst (v := 1) hx hb dX0_believed_48 (by decide) ?_
          refine lv_goto (tgt := 53) hx hb dX0_believed_49 (by decide) ?_
          refine lv_istore (lv' := [(4, .int 1), (3, .int (ga (C 12) (x1 + 1).toNatClampNeg)), (0, .ref (a 1)), (1, .int x1), (2, .int x2)]) hx hb dX0_believed_53 hl (by decide) rfl (fun ls hl => ?_)
          refine lv_iload hx hb dX0_believed_55 (lv_at hl 0 rfl) ?_
          refine lv_if_eq (tgt := 78) hx hb dX0_believed_57 (by decide) (fun c => absurd c (show ¬ ((1 : Int32) = 0) from by decide)) (fun _ => ?_)
          refine lv_aload_n hx hb dX0_believed_60 rfl (lv_at hl 2 rfl) ?_
          refine va_get (D := D) (ci := 0) (v := .ref (a 12)) (C := RX0) (T := TX0) (N := 8) hx hb htg ig_0 hown hK hP 1 (oh_wg (by decide) (sX_1 hT)) rfl 2 (by decide) (htg _ q_103) (fun _ h9 => h9) rfl dX0_believed_61 ?_
          refine lv_iload_n hx hb dX0_believed_64 rfl (lv_at hl 3 rfl) ?_
          refine lv_bipush (v := 9) hx hb dX0_believed_65 (by decide) ?_
          refine lv_iadd hx hb dX0_believed_67 ?_
          have n_9 : vp_in (x1 + 9) 160 := (rg_in (rg_add (lo := 9) (hi := 159) hx1 (rg_c (v := 9) (lo := 9) (hi := 9) (by decide)) (by decide)) (by decide))
          refine th_iald hx hb hK hP 12 (by decide) (sX_12 hT) n_9 dX0_believed_68 ?_
          refine lv_if_ne (tgt := 78) hx hb dX0_believed_69 (by decide) (fun (c_10 : ¬ ((ga (C 12) (x1 + 9).toNatClampNeg) = 0)) => ?_) (fun (c_10 : (ga (C 12) (x1 + 9).toNatClampNeg) = 0) => ?_)
          · refine lv_iload_n hx hb dX0_believed_78 rfl (lv_at hl 4 rfl) ?_
            rw [hQ]
            exact W.iret (v := x2) hx hb hr (fun t ht hW => ⟨x2, rfl, trivial, ht⟩) (fun q h => by cases h) dX0_believed_79
          · refine lv_iload_n hx hb dX0_believed_72 rfl (lv_at hl 4 rfl) ?_
            refine lv_iconst (v := 2) hx hb dX0_believed_73 (by decide) ?_
            refine lv_idiv hx hb dX0_believed_74 (by decide) ?_
            refine lv_goto (tgt := 79) hx hb dX0_believed_75 (by decide) ?_
            rw [hQ]
            exact W.iret (v := x2 / 2) hx hb hr (fun t ht hW => ⟨x2 / 2, rfl, trivial, ht⟩) (fun q h => by cases h) dX0_believed_79
    · refine lv_aload_n hx hb dX0_believed_27 rfl (lv_at hl 1 rfl) ?_
      refine va_get (D := D) (ci := 0) (v := .ref (a 15)) (C := RX0) (T := TX0) (N := 8) hx hb htg ig_0 hown hK hP 1 (oh_wg (by decide) (sX_1 hT)) rfl 5 (by decide) (htg _ q_106) (fun _ h9 => h9) rfl dX0_believed_28 ?_
      refine lv_iconst (v := 2) hx hb dX0_believed_31 (by decide) ?_
      refine th_iald hx hb hK hP 15 (by decide) (sX_15 hT) (rg_in (rg_c (v := 2) (lo := 2) (hi := 2) (by decide)) (by decide)) dX0_believed_32 ?_
      refine lv_if_ne (tgt := 38) hx hb dX0_believed_33 (by decide) (fun (c_11 : ¬ ((ga (C 15) ((2 : Int32)).toNatClampNeg) = 0)) => ?_) (fun (c_11 : (ga (C 15) ((2 : Int32)).toNatClampNeg) = 0) => ?_)
      · refine lv_iload_n hx hb dX0_believed_38 rfl (lv_at hl 0 rfl) ?_
        refine lv_iconst (v := 4) hx hb dX0_believed_39 (by decide) ?_
        refine lv_icmp_eq (tgt := 48) hx hb dX0_believed_40 (by decide) (fun (c_12 : (ga (C 12) (x1 + 1).toNatClampNeg) = 4) => ?_) (fun (c_12 : ¬ ((ga (C 12) (x1 + 1).toNatClampNeg) = 4)) => ?_)
        · refine lv_iconst (v := 1) hx hb dX0_believed_48 (by decide) ?_
          refine lv_goto (tgt := 53) hx hb dX0_believed_49 (by decide) ?_
          refine lv_istore (lv' := [(4, .int 1), (3, .int (ga (C 12) (x1 + 1).toNatClampNeg)), (0, .ref (a 1)), (1, .int x1), (2, .int x2)]) hx hb dX0_believed_53 hl (by decide) rfl (fun ls hl => ?_)
          refine lv_iload hx hb dX0_believed_55 (lv_at hl 0 rfl) ?_
          refine lv_if_eq (tgt := 78) hx hb dX0_believed_57 (by decide) (fun c => absurd c (show ¬ ((1 : Int32) = 0) from by decide)) (fun _ => ?_)
          refine lv_aload_n hx hb dX0_believed_60 rfl (lv_at hl 2 rfl) ?_
          refine va_get (D := D) (ci := 0) (v := .ref (a 12)) (C := RX0) (T := TX0) (N := 8) hx hb htg ig_0 hown hK hP 1 (oh_wg (by decide) (sX_1 hT)) rfl 2 (by decide) (htg _ q_103) (fun _ h9 => h9) rfl dX0_believed_61 ?_
          refine lv_iload_n hx hb dX0_believed_64 rfl (lv_at hl 3 rfl) ?_
          refine lv_bipush (v := 9) hx hb dX0_believed_65 (by decide) ?_
          refine lv_iadd hx hb dX0_believed_67 ?_
          have n_13 : vp_in (x1 + 9) 160 := (rg_in (rg_add (lo := 9) (hi := 159) hx1 (rg_c (v := 9) (lo := 9) (hi := 9) (by decide)) (by decide)) (by decide))
          refine th_iald hx hb hK hP 12 (by decide) (sX_12 hT) n_13 dX0_believed_68 ?_
          refine lv_if_ne (tgt := 78) hx hb dX0_believed_69 (by decide) (fun (c_14 : ¬ ((ga (C 12) (x1 + 9).toNatClampNeg) = 0)) => ?_) (fun (c_14 : (ga (C 12) (x1 + 9).toNatClampNeg) = 0) => ?_)
          · refine lv_iload_n hx hb dX0_believed_78 rfl (lv_at hl 4 rfl) ?_
            rw [hQ]
            exact W.iret (v := x2) hx hb hr (fun t ht hW => ⟨x2, rfl, trivial, ht⟩) (fun q h => by cases h) dX0_believed_79
          · refine lv_iload_n hx hb dX0_believed_72 rfl (lv_at hl 4 rfl) ?_
            refine lv_iconst (v := 2) hx hb dX0_believed_73 (by decide) ?_
            refine lv_idiv hx hb dX0_believed_74 (by decide) ?_
            refine lv_goto (tgt := 79) hx hb dX0_believed_75 (by decide) ?_
            rw [hQ]
            exact W.iret (v := x2 / 2) hx hb hr (fun t ht hW => ⟨x2 / 2, rfl, trivial, ht⟩) (fun q h => by cases h) dX0_believed_79
        · refine lv_iload_n hx hb dX0_believed_43 rfl (lv_at hl 0 rfl) ?_
          refine lv_iconst (v := 5) hx hb dX0_believed_44 (by decide) ?_
          refine lv_icmp_ne (tgt := 52) hx hb dX0_believed_45 (by decide) (fun (c_15 : ¬ ((ga (C 12) (x1 + 1).toNatClampNeg) = 5)) => ?_) (fun (c_15 : (ga (C 12) (x1 + 1).toNatClampNeg) = 5) => ?_)
          · refine lv_iconst (v := 0) hx hb dX0_believed_52 (by decide) ?_
            refine lv_istore (lv' := [(4, .int 0), (3, .int (ga (C 12) (x1 + 1).toNatClampNeg)), (0, .ref (a 1)), (1, .int x1), (2, .int x2)]) hx hb dX0_believed_53 hl (by decide) rfl (fun ls hl => ?_)
            refine lv_iload hx hb dX0_believed_55 (lv_at hl 0 rfl) ?_
            refine lv_if_eq (tgt := 78) hx hb dX0_believed_57 (by decide) (fun _ => ?_) (fun c => absurd (show (0 : Int32) = 0 from by decide) c)
            refine lv_iload_n hx hb dX0_believed_78 rfl (lv_at hl 4 rfl) ?_
            rw [hQ]
            exact W.iret (v := x2) hx hb hr (fun t ht hW => ⟨x2, rfl, trivial, ht⟩) (fun q h => by cases h) dX0_believed_79
          · refine lv_iconst (v := 1) hx hb dX0_believed_48 (by decide) ?_
            refine lv_goto (tgt := 53) hx hb dX0_believed_49 (by decide) ?_
            refine lv_istore (lv' := [(4, .int 1), (3, .int (ga (C 12) (x1 + 1).toNatClampNeg)), (0, .ref (a 1)), (1, .int x1), (2, .int x2)]) hx hb dX0_believed_53 hl (by decide) rfl (fun ls hl => ?_)
            refine lv_iload hx hb dX0_believed_55 (lv_at hl 0 rfl) ?_
            refine lv_if_eq (tgt := 78) hx hb dX0_believed_57 (by decide) (fun c => absurd c (show ¬ ((1 : Int32) = 0) from by decide)) (fun _ => ?_)
            refine lv_aload_n hx hb dX0_believed_60 rfl (lv_at hl 2 rfl) ?_
            refine va_get (D := D) (ci := 0) (v := .ref (a 12)) (C := RX0) (T := TX0) (N := 8) hx hb htg ig_0 hown hK hP 1 (oh_wg (by decide) (sX_1 hT)) rfl 2 (by decide) (htg _ q_103) (fun _ h9 => h9) rfl dX0_believed_61 ?_
            refine lv_iload_n hx hb dX0_believed_64 rfl (lv_at hl 3 rfl) ?_
            refine lv_bipush (v := 9) hx hb dX0_believed_65 (by decide) ?_
            refine lv_iadd hx hb dX0_believed_67 ?_
            have n_16 : vp_in (x1 + 9) 160 := (rg_in (rg_add (lo := 9) (hi := 159) hx1 (rg_c (v := 9) (lo := 9) (hi := 9) (by decide)) (by decide)) (by decide))
            refine th_iald hx hb hK hP 12 (by decide) (sX_12 hT) n_16 dX0_believed_68 ?_
            refine lv_if_ne (tgt := 78) hx hb dX0_believed_69 (by decide) (fun (c_17 : ¬ ((ga (C 12) (x1 + 9).toNatClampNeg) = 0)) => ?_) (fun (c_17 : (ga (C 12) (x1 + 9).toNatClampNeg) = 0) => ?_)
            · refine lv_iload_n hx hb dX0_believed_78 rfl (lv_at hl 4 rfl) ?_
              rw [hQ]
              exact W.iret (v := x2) hx hb hr (fun t ht hW => ⟨x2, rfl, trivial, ht⟩) (fun q h => by cases h) dX0_believed_79
            · refine lv_iload_n hx hb dX0_believed_72 rfl (lv_at hl 4 rfl) ?_
              refine lv_iconst (v := 2) hx hb dX0_believed_73 (by decide) ?_
              refine lv_idiv hx hb dX0_believed_74 (by decide) ?_
              refine lv_goto (tgt := 79) hx hb dX0_believed_75 (by decide) ?_
              rw [hQ]
              exact W.iret (v := x2 / 2) hx hb hr (fun t ht hW => ⟨x2 / 2, rfl, trivial, ht⟩) (fun q h => by cases h) dX0_believed_79
      · refine lv_iconst (v := 0) hx hb dX0_believed_36 (by decide) ?_
        rw [hQ]
        exact W.iret (v := 0) hx hb hr (fun t ht hW => ⟨0, rfl, trivial, ht⟩) (fun q h => by cases h) dX0_believed_37

set_option maxHeartbeats 4000000 in
set_option maxRecDepth 100000 in
theorem c_X0_bearsAxle (l : Launch) (D : va_G) (E : Nat → ClassId) (G : Nat → Nat) (a : Nat → Nat) (C : Nat → va_E) (hT : TyX a E C) (x1 : Int32) (hx1 : rg x1 0 15) : Met l yX0_bearsAxle (oh_w yX0_bearsAxle cX0_bearsAxle 4 (some .int)) ({ frames := 1, cells := 0, slots := 0, locals := 24 }) (oh_Pp D E G [.ref (a 1), .int x1] (oh_W 35 a C)) (vp_Si (fun r => True)) 0 0 (fun _ => False) := by
  refine Met.ofW (cc := cX0_bearsAxle) (maxL := 4) (ret := (some .int)) (by decide) rfl ?_
  intro p e s m args below meth c s₁ B hml hv
  obtain ⟨rfl, hP, hK, hG⟩ := hv
  have hx := B.exec
  have hb := B.bytes
  have hr := B.returns
  have hts := atoms_spec (ws := (oh_w yX0_bearsAxle cX0_bearsAxle 4 (some .int))) B.pre
  have htg : ∀ w ∈ oh_t, w.before _ s = true := fun w h => hts w (List.mem_cons_of_mem _ h)
  have hown : s.vm.findClass RX0 = some m.cls := findClass_of_methodNamed B.named
  have hlocks := B.notSynchronized
  have hT0 := hT
  have hS : va_S (fun _ => False) s.heap s.heap [] := va_S.rf
  have hl := lv_entry ([.ref (a 1), .int x1]) (n := 4) (Nat.le_of_ble_eq_true rfl)
  rw [lg_entry_eq]
  generalize (lg_sl ([.ref (a 1), .int x1]) ++ List.replicate (4 - (lg_sl ([.ref (a 1), .int x1])).length) Slot.unset).toArray = ls at hl ⊢
  have hl : lv_has ls 4 [(0, .ref (a 1)), (1, .int x1)] := hl
  refine oh_genQ (fun Q hQ => ?_)
  refine lv_iload_n hx hb dX0_bearsAxle_0 rfl (lv_at hl 1 rfl) ?_
  refine lv_bipush (v := 10) hx hb dX0_bearsAxle_1 (by decide) ?_
  refine lv_imul hx hb dX0_bearsAxle_3 ?_
  refine lv_istore_n (lv' := [(2, .int (x1 * 10)), (0, .ref (a 1)), (1, .int x1)]) hx hb dX0_bearsAxle_4 rfl hl (by decide) rfl (fun ls hl => ?_)
  refine lv_aload_n hx hb dX0_bearsAxle_5 rfl (lv_at hl 1 rfl) ?_
  refine va_get (D := D) (ci := 0) (v := .ref (a 12)) (C := RX0) (T := TX0) (N := 8) hx hb htg ig_0 hown hK hP 1 (oh_wg (by decide) (sX_1 hT)) rfl 2 (by decide) (htg _ q_103) (fun _ h9 => h9) rfl dX0_bearsAxle_6 ?_
  refine lv_iload_n hx hb dX0_bearsAxle_9 rfl (lv_at hl 0 rfl) ?_
  refine lv_iconst (v := 3) hx hb dX0_bearsAxle_10 (by decide) ?_
  refine lv_iadd hx hb dX0_bearsAxle_11 ?_
  have n_1 : vp_in ((x1 * 10) + 3) 160 := (rg_in (rg_add (lo := 3) (hi := 153) (rg_mul (lo := 0) (hi := 150) hx1 (rg_c (v := 10) (lo := 10) (hi := 10) (by decide)) (by decide)) (rg_c (v := 3) (lo := 3) (hi := 3) (by decide)) (by decide)) (by decide))
  refine th_iald hx hb hK hP 12 (by decide) (sX_12 hT) n_1 dX0_bearsAxle_12 ?_
  refine lv_istore_n (lv' := [(3, .int (ga (C 12) ((x1 * 10) + 3).toNatClampNeg)), (2, .int (x1 * 10)), (0, .ref (a 1)), (1, .int x1)]) hx hb dX0_bearsAxle_13 rfl hl (by decide) rfl (fun ls hl => ?_)
  refine lv_aload_n hx hb dX0_bearsAxle_14 rfl (lv_at hl 2 rfl) ?_
  refine lv_iload_n hx hb dX0_bearsAxle_15 rfl (lv_at hl 1 rfl) ?_
  refine lv_aload_n hx hb dX0_bearsAxle_16 rfl (lv_at hl 2 rfl) ?_
  refine va_get (D := D) (ci := 0) (v := .ref (a 12)) (C := RX0) (T := TX0) (N := 8) hx hb htg ig_0 hown hK hP 1 (oh_wg (by decide) (sX_1 hT)) rfl 2 (by decide) (htg _ q_103) (fun _ h9 => h9) rfl dX0_bearsAxle_17 ?_
  refine lv_iload_n hx hb dX0_bearsAxle_20 rfl (lv_at hl 1 rfl) ?_
  refine lv_iconst (v := 1) hx hb dX0_bearsAxle_21 (by decide) ?_
  refine lv_iadd hx hb dX0_bearsAxle_22 ?_
  have n_2 : vp_in ((x1 * 10) + 1) 160 := (rg_in (rg_add (lo := 1) (hi := 151) (rg_mul (lo := 0) (hi := 150) hx1 (rg_c (v := 10) (lo := 10) (hi := 10) (by decide)) (by decide)) (rg_c (v := 1) (lo := 1) (hi := 1) (by decide)) (by decide)) (by decide))
  refine th_iald hx hb hK hP 12 (by decide) (sX_12 hT) n_2 dX0_bearsAxle_23 ?_
  refine lv_iconst (v := 2) hx hb dX0_bearsAxle_24 (by decide) ?_
  refine lv_icmp_ne (tgt := 34) hx hb dX0_bearsAxle_25 (by decide) (fun (c_3 : ¬ ((ga (C 12) ((x1 * 10) + 1).toNatClampNeg) = 2)) => ?_) (fun (c_3 : (ga (C 12) ((x1 * 10) + 1).toNatClampNeg) = 2) => ?_)
  · refine lv_iload_n hx hb dX0_bearsAxle_34 rfl (lv_at hl 0 rfl) ?_
    refine tq_V (As := [.int (x1 * 10), .int (ga (C 12) ((x1 * 10) + 3).toNatClampNeg)]) (rest := []) (ws := (oh_W 35 a C)) ⟨hx, hb, hml, hown, htg⟩ (c_X0_believed l D E G a C hT (x1 * 10) (ga (C 12) ((x1 * 10) + 3).toNatClampNeg) (rg_w (rg_mul (lo := 0) (hi := 150) hx1 (rg_c (v := 10) (lo := 10) (hi := 10) (by decide)) (by decide)) (by decide))) (cwV 2 htg (oh_gV q_397 q_399 q_4 q_67 q_400) rfl rfl rfl pdVX0_believed ⟨Nat.le_of_ble_eq_true rfl, Nat.le_of_ble_eq_true rfl⟩) hK hP hG hS (va_recv hK hP (ci := 0) (q0 := 1) rfl (oh_wg (by decide) (sX_1 hT))) rfl hl.1 rfl (Nat.le_of_ble_eq_true rfl) dX0_bearsAxle_35 ⟨Nat.le_of_ble_eq_true rfl, Nat.le_of_ble_eq_true rfl⟩ (fun r_4 hq_5 => ?_)
    rw [hQ]
    exact W.iret (v := r_4) hx hb hr (fun t ht hW => ⟨r_4, rfl, trivial, ht⟩) (fun q h => by cases h) dX0_bearsAxle_38
  · refine lv_iload_n hx hb dX0_bearsAxle_28 rfl (lv_at hl 0 rfl) ?_
    refine lv_iconst (v := 5) hx hb dX0_bearsAxle_29 (by decide) ?_
    refine lv_iadd hx hb dX0_bearsAxle_30 ?_
    refine lv_goto (tgt := 35) hx hb dX0_bearsAxle_31 (by decide) ?_
    refine tq_V (As := [.int (x1 * 10), .int ((ga (C 12) ((x1 * 10) + 3).toNatClampNeg) + 5)]) (rest := []) (ws := (oh_W 35 a C)) ⟨hx, hb, hml, hown, htg⟩ (c_X0_believed l D E G a C hT (x1 * 10) ((ga (C 12) ((x1 * 10) + 3).toNatClampNeg) + 5) (rg_w (rg_mul (lo := 0) (hi := 150) hx1 (rg_c (v := 10) (lo := 10) (hi := 10) (by decide)) (by decide)) (by decide))) (cwV 2 htg (oh_gV q_397 q_399 q_4 q_67 q_400) rfl rfl rfl pdVX0_believed ⟨Nat.le_of_ble_eq_true rfl, Nat.le_of_ble_eq_true rfl⟩) hK hP hG hS (va_recv hK hP (ci := 0) (q0 := 1) rfl (oh_wg (by decide) (sX_1 hT))) rfl hl.1 rfl (Nat.le_of_ble_eq_true rfl) dX0_bearsAxle_35 ⟨Nat.le_of_ble_eq_true rfl, Nat.le_of_ble_eq_true rfl⟩ (fun r_6 hq_7 => ?_)
    rw [hQ]
    exact W.iret (v := r_6) hx hb hr (fun t ht hW => ⟨r_6, rfl, trivial, ht⟩) (fun q h => by cases h) dX0_bearsAxle_38

set_option maxHeartbeats 4000000 in
set_option maxRecDepth 100000 in
theorem c_X0_bearsAll (l : Launch) (D : va_G) (E : Nat → ClassId) (G : Nat → Nat) (a : Nat → Nat) (C : Nat → va_E) (hT : TyX a E C) (x1 : Int32) (x2 : Int32) (hx1 : rg x1 0 15) (hx2 : rg x2 0 1) : Met l yX0_bearsAll (oh_w yX0_bearsAll cX0_bearsAll 8 (some .int)) ({ frames := 1, cells := 0, slots := 0, locals := 24 }) (oh_Pp D E G [.ref (a 1), .int x1, .int x2] (oh_W 35 a C)) (vp_Si (fun r => True)) 0 0 (fun _ => False) := by
  refine Met.ofW (cc := cX0_bearsAll) (maxL := 8) (ret := (some .int)) (by decide) rfl ?_
  intro p e s m args below meth c s₁ B hml hv
  obtain ⟨rfl, hP, hK, hG⟩ := hv
  have hx := B.exec
  have hb := B.bytes
  have hr := B.returns
  have hts := atoms_spec (ws := (oh_w yX0_bearsAll cX0_bearsAll 8 (some .int))) B.pre
  have htg : ∀ w ∈ oh_t, w.before _ s = true := fun w h => hts w (List.mem_cons_of_mem _ h)
  have hown : s.vm.findClass RX0 = some m.cls := findClass_of_methodNamed B.named
  have hlocks := B.notSynchronized
  have hT0 := hT
  have hS : va_S (fun _ => False) s.heap s.heap [] := va_S.rf
  have hl := lv_entry ([.ref (a 1), .int x1, .int x2]) (n := 8) (Nat.le_of_ble_eq_true rfl)
  rw [lg_entry_eq]
  generalize (lg_sl ([.ref (a 1), .int x1, .int x2]) ++ List.replicate (8 - (lg_sl ([.ref (a 1), .int x1, .int x2])).length) Slot.unset).toArray = ls at hl ⊢
  have hl : lv_has ls 8 [(0, .ref (a 1)), (1, .int x1), (2, .int x2)] := hl
  refine oh_genQ (fun Q hQ => ?_)
  refine lv_iload_n hx hb dX0_bearsAll_0 rfl (lv_at hl 1 rfl) ?_
  refine lv_bipush (v := 10) hx hb dX0_bearsAll_1 (by decide) ?_
  refine lv_imul hx hb dX0_bearsAll_3 ?_
  refine lv_istore_n (lv' := [(3, .int (x1 * 10)), (0, .ref (a 1)), (1, .int x1), (2, .int x2)]) hx hb dX0_bearsAll_4 rfl hl (by decide) rfl (fun ls hl => ?_)
  refine lv_aload_n hx hb dX0_bearsAll_5 rfl (lv_at hl 1 rfl) ?_
  refine va_get (D := D) (ci := 0) (v := .ref (a 12)) (C := RX0) (T := TX0) (N := 8) hx hb htg ig_0 hown hK hP 1 (oh_wg (by decide) (sX_1 hT)) rfl 2 (by decide) (htg _ q_103) (fun _ h9 => h9) rfl dX0_bearsAll_6 ?_
  refine lv_iload_n hx hb dX0_bearsAll_9 rfl (lv_at hl 0 rfl) ?_
  refine lv_iconst (v := 1) hx hb dX0_bearsAll_10 (by decide) ?_
  refine lv_iadd hx hb dX0_bearsAll_11 ?_
  have n_1 : vp_in ((x1 * 10) + 1) 160 := (rg_in (rg_add (lo := 1) (hi := 151) (rg_mul (lo := 0) (hi := 150) hx1 (rg_c (v := 10) (lo := 10) (hi := 10) (by decide)) (by decide)) (rg_c (v := 1) (lo := 1) (hi := 1) (by decide)) (by decide)) (by decide))
  refine th_iald hx hb hK hP 12 (by decide) (sX_12 hT) n_1 dX0_bearsAll_12 ?_
  refine lv_istore (lv' := [(4, .int (ga (C 12) ((x1 * 10) + 1).toNatClampNeg)), (3, .int (x1 * 10)), (0, .ref (a 1)), (1, .int x1), (2, .int x2)]) hx hb dX0_bearsAll_13 hl (by decide) rfl (fun ls hl => ?_)
  refine lv_aload_n hx hb dX0_bearsAll_15 rfl (lv_at hl 2 rfl) ?_
  refine va_get (D := D) (ci := 0) (v := .ref (a 12)) (C := RX0) (T := TX0) (N := 8) hx hb htg ig_0 hown hK hP 1 (oh_wg (by decide) (sX_1 hT)) rfl 2 (by decide) (htg _ q_103) (fun _ h9 => h9) rfl dX0_bearsAll_16 ?_
  refine lv_iload_n hx hb dX0_bearsAll_19 rfl (lv_at hl 1 rfl) ?_
  refine lv_iconst (v := 4) hx hb dX0_bearsAll_20 (by decide) ?_
  refine lv_iadd hx hb dX0_bearsAll_21 ?_
  have n_2 : vp_in ((x1 * 10) + 4) 160 := (rg_in (rg_add (lo := 4) (hi := 154) (rg_mul (lo := 0) (hi := 150) hx1 (rg_c (v := 10) (lo := 10) (hi := 10) (by decide)) (by decide)) (rg_c (v := 4) (lo := 4) (hi := 4) (by decide)) (by decide)) (by decide))
  refine th_iald hx hb hK hP 12 (by decide) (sX_12 hT) n_2 dX0_bearsAll_22 ?_
  refine lv_istore (lv' := [(5, .int (ga (C 12) ((x1 * 10) + 4).toNatClampNeg)), (4, .int (ga (C 12) ((x1 * 10) + 1).toNatClampNeg)), (3, .int (x1 * 10)), (0, .ref (a 1)), (1, .int x1), (2, .int x2)]) hx hb dX0_bearsAll_23 hl (by decide) rfl (fun ls hl => ?_)
  refine lv_iload hx hb dX0_bearsAll_25 (lv_at hl 1 rfl) ?_
  refine lv_iconst (v := 1) hx hb dX0_bearsAll_27 (by decide) ?_
  refine lv_icmp_eq (tgt := 37) hx hb dX0_bearsAll_28 (by decide) (fun (c_3 : (ga (C 12) ((x1 * 10) + 1).toNatClampNeg) = 1) => ?_) (fun (c_3 : ¬ ((ga (C 12) ((x1 * 10) + 1).toNatClampNeg) = 1)) => ?_)
  · refine lv_iconst (v := 1) hx hb dX0_bearsAll_37 (by decide) ?_
    refine lv_goto (tgt := 42) hx hb dX0_bearsAll_38 (by decide) ?_
    refine lv_istore (lv' := [(6, .int 1), (5, .int (ga (C 12) ((x1 * 10) + 4).toNatClampNeg)), (4, .int (ga (C 12) ((x1 * 10) + 1).toNatClampNeg)), (3, .int (x1 * 10)), (0, .ref (a 1)), (1, .int x1), (2, .int x2)]) hx hb dX0_bearsAll_42 hl (by decide) rfl (fun ls hl => ?_)
    refine lv_aload_n hx hb dX0_bearsAll_44 rfl (lv_at hl 4 rfl) ?_
    refine lv_iload_n hx hb dX0_bearsAll_45 rfl (lv_at hl 3 rfl) ?_
    refine lv_iload hx hb dX0_bearsAll_46 (lv_at hl 0 rfl) ?_
    refine lv_if_eq (tgt := 62) hx hb dX0_bearsAll_48 (by decide) (fun c => absurd c (show ¬ ((1 : Int32) = 0) from by decide)) (fun _ => ?_)
    refine lv_iload hx hb dX0_bearsAll_51 (lv_at hl 1 rfl) ?_
    refine lv_iload hx hb dX0_bearsAll_53 (lv_at hl 1 rfl) ?_
    refine lv_bipush (v := 10) hx hb dX0_bearsAll_55 (by decide) ?_
    refine lv_idiv hx hb dX0_bearsAll_57 (by decide) ?_
    refine lv_iadd hx hb dX0_bearsAll_58 ?_
    refine lv_goto (tgt := 64) hx hb dX0_bearsAll_59 (by decide) ?_
    refine tq_V (As := [.int (x1 * 10), .int ((ga (C 12) ((x1 * 10) + 4).toNatClampNeg) + ((ga (C 12) ((x1 * 10) + 4).toNatClampNeg) / 10))]) (rest := []) (ws := (oh_W 35 a C)) ⟨hx, hb, hml, hown, htg⟩ (c_X0_believed l D E G a C hT (x1 * 10) ((ga (C 12) ((x1 * 10) + 4).toNatClampNeg) + ((ga (C 12) ((x1 * 10) + 4).toNatClampNeg) / 10)) (rg_w (rg_mul (lo := 0) (hi := 150) hx1 (rg_c (v := 10) (lo := 10) (hi := 10) (by decide)) (by decide)) (by decide))) (cwV 2 htg (oh_gV q_397 q_399 q_4 q_67 q_400) rfl rfl rfl pdVX0_believed ⟨Nat.le_of_ble_eq_true rfl, Nat.le_of_ble_eq_true rfl⟩) hK hP hG hS (va_recv hK hP (ci := 0) (q0 := 1) rfl (oh_wg (by decide) (sX_1 hT))) rfl hl.1 rfl (Nat.le_of_ble_eq_true rfl) dX0_bearsAll_64 ⟨Nat.le_of_ble_eq_true rfl, Nat.le_of_ble_eq_true rfl⟩ (fun r_4 hq_5 => ?_)
    refine lv_istore (lv' := [(7, .int r_4), (6, .int 1), (5, .int (ga (C 12) ((x1 * 10) + 4).toNatClampNeg)), (4, .int (ga (C 12) ((x1 * 10) + 1).toNatClampNeg)), (3, .int (x1 * 10)), (0, .ref (a 1)), (1, .int x1), (2, .int x2)]) hx hb dX0_bearsAll_67 hl (by decide) rfl (fun ls hl => ?_)
    refine lv_iload_n hx hb dX0_bearsAll_69 rfl (lv_at hl 7 rfl) ?_
    refine lv_if_eq (tgt := 99) hx hb dX0_bearsAll_70 (by decide) (fun (c_6 : x2 = 0) => ?_) (fun (c_6 : ¬ (x2 = 0)) => ?_)
    · refine lv_iload hx hb dX0_bearsAll_99 (lv_at hl 0 rfl) ?_
      rw [hQ]
      exact W.iret (v := r_4) hx hb hr (fun t ht hW => ⟨r_4, rfl, trivial, ht⟩) (fun q h => by cases h) dX0_bearsAll_101
    · refine lv_aload_n hx hb dX0_bearsAll_73 rfl (lv_at hl 5 rfl) ?_
      refine va_get (D := D) (ci := 0) (v := .ref (a 12)) (C := RX0) (T := TX0) (N := 8) hx hb htg ig_0 hown hK hP 1 (oh_wg (by decide) (sX_1 hT)) rfl 2 (by decide) (htg _ q_103) (fun _ h9 => h9) rfl dX0_bearsAll_74 ?_
      refine lv_iload_n hx hb dX0_bearsAll_77 rfl (lv_at hl 4 rfl) ?_
      refine lv_bipush (v := 8) hx hb dX0_bearsAll_78 (by decide) ?_
      refine lv_iadd hx hb dX0_bearsAll_80 ?_
      have n_7 : vp_in ((x1 * 10) + 8) 160 := (rg_in (rg_add (lo := 8) (hi := 158) (rg_mul (lo := 0) (hi := 150) hx1 (rg_c (v := 10) (lo := 10) (hi := 10) (by decide)) (by decide)) (rg_c (v := 8) (lo := 8) (hi := 8) (by decide)) (by decide)) (by decide))
      refine th_iald hx hb hK hP 12 (by decide) (sX_12 hT) n_7 dX0_bearsAll_81 ?_
      refine lv_if_ne (tgt := 99) hx hb dX0_bearsAll_82 (by decide) (fun (c_8 : ¬ ((ga (C 12) ((x1 * 10) + 8).toNatClampNeg) = 0)) => ?_) (fun (c_8 : (ga (C 12) ((x1 * 10) + 8).toNatClampNeg) = 0) => ?_)
      · refine lv_iload hx hb dX0_bearsAll_99 (lv_at hl 0 rfl) ?_
        rw [hQ]
        exact W.iret (v := r_4) hx hb hr (fun t ht hW => ⟨r_4, rfl, trivial, ht⟩) (fun q h => by cases h) dX0_bearsAll_101
      · refine lv_iload hx hb dX0_bearsAll_85 (lv_at hl 0 rfl) ?_
        refine lv_aload_n hx hb dX0_bearsAll_87 rfl (lv_at hl 5 rfl) ?_
        refine va_get (D := D) (ci := 0) (v := .ref (a 12)) (C := RX0) (T := TX0) (N := 8) hx hb htg ig_0 hown hK hP 1 (oh_wg (by decide) (sX_1 hT)) rfl 2 (by decide) (htg _ q_103) (fun _ h9 => h9) rfl dX0_bearsAll_88 ?_
        refine lv_iload_n hx hb dX0_bearsAll_91 rfl (lv_at hl 4 rfl) ?_
        refine lv_iconst (v := 5) hx hb dX0_bearsAll_92 (by decide) ?_
        refine lv_iadd hx hb dX0_bearsAll_93 ?_
        have n_9 : vp_in ((x1 * 10) + 5) 160 := (rg_in (rg_add (lo := 5) (hi := 155) (rg_mul (lo := 0) (hi := 150) hx1 (rg_c (v := 10) (lo := 10) (hi := 10) (by decide)) (by decide)) (rg_c (v := 5) (lo := 5) (hi := 5) (by decide)) (by decide)) (by decide))
        refine th_iald hx hb hK hP 12 (by decide) (sX_12 hT) n_9 dX0_bearsAll_94 ?_
        refine lv_iadd hx hb dX0_bearsAll_95 ?_
        refine lv_goto (tgt := 101) hx hb dX0_bearsAll_96 (by decide) ?_
        rw [hQ]
        exact W.iret (v := r_4 + (ga (C 12) ((x1 * 10) + 5).toNatClampNeg)) hx hb hr (fun t ht hW => ⟨r_4 + (ga (C 12) ((x1 * 10) + 5).toNatClampNeg), rfl, trivial, ht⟩) (fun q h => by cases h) dX0_bearsAll_101
  · refine lv_iload hx hb dX0_bearsAll_31 (lv_at hl 1 rfl) ?_
    refine lv_iconst (v := 2) hx hb dX0_bearsAll_33 (by decide) ?_
    refine lv_icmp_ne (tgt := 41) hx hb dX0_bearsAll_34 (by decide) (fun (c_10 : ¬ ((ga (C 12) ((x1 * 10) + 1).toNatClampNeg) = 2)) => ?_) (fun (c_10 : (ga (C 12) ((x1 * 10) + 1).toNatClampNeg) = 2) => ?_)
    · refine lv_iconst (v := 0) hx hb dX0_bearsAll_41 (by decide) ?_
      refine lv_istore (lv' := [(6, .int 0), (5, .int (ga (C 12) ((x1 * 10) + 4).toNatClampNeg)), (4, .int (ga (C 12) ((x1 * 10) + 1).toNatClampNeg)), (3, .int (x1 * 10)), (0, .ref (a 1)), (1, .int x1), (2, .int x2)]) hx hb dX0_bearsAll_42 hl (by decide) rfl (fun ls hl => ?_)
      refine lv_aload_n hx hb dX0_bearsAll_44 rfl (lv_at hl 4 rfl) ?_
      refine lv_iload_n hx hb dX0_bearsAll_45 rfl (lv_at hl 3 rfl) ?_
      refine lv_iload hx hb dX0_bearsAll_46 (lv_at hl 0 rfl) ?_
      refine lv_if_eq (tgt := 62) hx hb dX0_bearsAll_48 (by decide) (fun _ => ?_) (fun c => absurd (show (0 : Int32) = 0 from by decide) c)
      refine lv_iload hx hb dX0_bearsAll_62 (lv_at hl 1 rfl) ?_
      refine tq_V (As := [.int (x1 * 10), .int (ga (C 12) ((x1 * 10) + 4).toNatClampNeg)]) (rest := []) (ws := (oh_W 35 a C)) ⟨hx, hb, hml, hown, htg⟩ (c_X0_believed l D E G a C hT (x1 * 10) (ga (C 12) ((x1 * 10) + 4).toNatClampNeg) (rg_w (rg_mul (lo := 0) (hi := 150) hx1 (rg_c (v := 10) (lo := 10) (hi := 10) (by decide)) (by decide)) (by decide))) (cwV 2 htg (oh_gV q_397 q_399 q_4 q_67 q_400) rfl rfl rfl pdVX0_believed ⟨Nat.le_of_ble_eq_true rfl, Nat.le_of_ble_eq_true rfl⟩) hK hP hG hS (va_recv hK hP (ci := 0) (q0 := 1) rfl (oh_wg (by decide) (sX_1 hT))) rfl hl.1 rfl (Nat.le_of_ble_eq_true rfl) dX0_bearsAll_64 ⟨Nat.le_of_ble_eq_true rfl, Nat.le_of_ble_eq_true rfl⟩ (fun r_11 hq_12 => ?_)
      refine lv_istore (lv' := [(7, .int r_11), (6, .int 0), (5, .int (ga (C 12) ((x1 * 10) + 4).toNatClampNeg)), (4, .int (ga (C 12) ((x1 * 10) + 1).toNatClampNeg)), (3, .int (x1 * 10)), (0, .ref (a 1)), (1, .int x1), (2, .int x2)]) hx hb dX0_bearsAll_67 hl (by decide) rfl (fun ls hl => ?_)
      refine lv_iload_n hx hb dX0_bearsAll_69 rfl (lv_at hl 7 rfl) ?_
      refine lv_if_eq (tgt := 99) hx hb dX0_bearsAll_70 (by decide) (fun (c_13 : x2 = 0) => ?_) (fun (c_13 : ¬ (x2 = 0)) => ?_)
      · refine lv_iload hx hb dX0_bearsAll_99 (lv_at hl 0 rfl) ?_
        rw [hQ]
        exact W.iret (v := r_11) hx hb hr (fun t ht hW => ⟨r_11, rfl, trivial, ht⟩) (fun q h => by cases h) dX0_bearsAll_101
      · refine lv_aload_n hx hb dX0_bearsAll_73 rfl (lv_at hl 5 rfl) ?_
        refine va_get (D := D) (ci := 0) (v := .ref (a 12)) (C := RX0) (T := TX0) (N := 8) hx hb htg ig_0 hown hK hP 1 (oh_wg (by decide) (sX_1 hT)) rfl 2 (by decide) (htg _ q_103) (fun _ h9 => h9) rfl dX0_bearsAll_74 ?_
        refine lv_iload_n hx hb dX0_bearsAll_77 rfl (lv_at hl 4 rfl) ?_
        refine lv_bipush (v := 8) hx hb dX0_bearsAll_78 (by decide) ?_
        refine lv_iadd hx hb dX0_bearsAll_80 ?_
        have n_14 : vp_in ((x1 * 10) + 8) 160 := (rg_in (rg_add (lo := 8) (hi := 158) (rg_mul (lo := 0) (hi := 150) hx1 (rg_c (v := 10) (lo := 10) (hi := 10) (by decide)) (by decide)) (rg_c (v := 8) (lo := 8) (hi := 8) (by decide)) (by decide)) (by decide))
        refine th_iald hx hb hK hP 12 (by decide) (sX_12 hT) n_14 dX0_bearsAll_81 ?_
        refine lv_if_ne (tgt := 99) hx hb dX0_bearsAll_82 (by decide) (fun (c_15 : ¬ ((ga (C 12) ((x1 * 10) + 8).toNatClampNeg) = 0)) => ?_) (fun (c_15 : (ga (C 12) ((x1 * 10) + 8).toNatClampNeg) = 0) => ?_)
        · refine lv_iload hx hb dX0_bearsAll_99 (lv_at hl 0 rfl) ?_
          rw [hQ]
          exact W.iret (v := r_11) hx hb hr (fun t ht hW => ⟨r_11, rfl, trivial, ht⟩) (fun q h => by cases h) dX0_bearsAll_101
        · refine lv_iload hx hb dX0_bearsAll_85 (lv_at hl 0 rfl) ?_
          refine lv_aload_n hx hb dX0_bearsAll_87 rfl (lv_at hl 5 rfl) ?_
          refine va_get (D := D) (ci := 0) (v := .ref (a 12)) (C := RX0) (T := TX0) (N := 8) hx hb htg ig_0 hown hK hP 1 (oh_wg (by decide) (sX_1 hT)) rfl 2 (by decide) (htg _ q_103) (fun _ h9 => h9) rfl dX0_bearsAll_88 ?_
          refine lv_iload_n hx hb dX0_bearsAll_91 rfl (lv_at hl 4 rfl) ?_
          refine lv_iconst (v := 5) hx hb dX0_bearsAll_92 (by decide) ?_
          refine lv_iadd hx hb dX0_bearsAll_93 ?_
          have n_16 : vp_in ((x1 * 10) + 5) 160 := (rg_in (rg_add (lo := 5) (hi := 155) (rg_mul (lo := 0) (hi := 150) hx1 (rg_c (v := 10) (lo := 10) (hi := 10) (by decide)) (by decide)) (rg_c (v := 5) (lo := 5) (hi := 5) (by decide)) (by decide)) (by decide))
          refine th_iald hx hb hK hP 12 (by decide) (sX_12 hT) n_16 dX0_bearsAll_94 ?_
          refine lv_iadd hx hb dX0_bearsAll_95 ?_
          refine lv_goto (tgt := 101) hx hb dX0_bearsAll_96 (by decide) ?_
          rw [hQ]
          exact W.iret (v := r_11 + (ga (C 12) ((x1 * 10) + 5).toNatClampNeg)) hx hb hr (fun t ht hW => ⟨r_11 + (ga (C 12) ((x1 * 10) + 5).toNatClampNeg), rfl, trivial, ht⟩) (fun q h => by cases h) dX0_bearsAll_101
    · refine lv_iconst (v := 1) hx hb dX0_bearsAll_37 (by decide) ?_
      refine lv_goto (tgt := 42) hx hb dX0_bearsAll_38 (by decide) ?_
      refine lv_istore (lv' := [(6, .int 1), (5, .int (ga (C 12) ((x1 * 10) + 4).toNatClampNeg)), (4, .int (ga (C 12) ((x1 * 10) + 1).toNatClampNeg)), (3, .int (x1 * 10)), (0, .ref (a 1)), (1, .int x1), (2, .int x2)]) hx hb dX0_bearsAll_42 hl (by decide) rfl (fun ls hl => ?_)
      refine lv_aload_n hx hb dX0_bearsAll_44 rfl (lv_at hl 4 rfl) ?_
      refine lv_iload_n hx hb dX0_bearsAll_45 rfl (lv_at hl 3 rfl) ?_
      refine lv_iload hx hb dX0_bearsAll_46 (lv_at hl 0 rfl) ?_
      refine lv_if_eq (tgt := 62) hx hb dX0_bearsAll_48 (by decide) (fun c => absurd c (show ¬ ((1 : Int32) = 0) from by decide)) (fun _ => ?_)
      refine lv_iload hx hb dX0_bearsAll_51 (lv_at hl 1 rfl) ?_
      refine lv_iload hx hb dX0_bearsAll_53 (lv_at hl 1 rfl) ?_
      refine lv_bipush (v := 10) hx hb dX0_bearsAll_55 (by decide) ?_
      refine lv_idiv hx hb dX0_bearsAll_57 (by decide) ?_
      refine lv_iadd hx hb dX0_bearsAll_58 ?_
      refine lv_goto (tgt := 64) hx hb dX0_bearsAll_59 (by decide) ?_
      refine tq_V (As := [.int (x1 * 10), .int ((ga (C 12) ((x1 * 10) + 4).toNatClampNeg) + ((ga (C 12) ((x1 * 10) + 4).toNatClampNeg) / 10))]) (rest := []) (ws := (oh_W 35 a C)) ⟨hx, hb, hml, hown, htg⟩ (c_X0_believed l D E G a C hT (x1 * 10) ((ga (C 12) ((x1 * 10) + 4).toNatClampNeg) + ((ga (C 12) ((x1 * 10) + 4).toNatClampNeg) / 10)) (rg_w (rg_mul (lo := 0) (hi := 150) hx1 (rg_c (v := 10) (lo := 10) (hi := 10) (by decide)) (by decide)) (by decide))) (cwV 2 htg (oh_gV q_397 q_399 q_4 q_67 q_400) rfl rfl rfl pdVX0_believed ⟨Nat.le_of_ble_eq_true rfl, Nat.le_of_ble_eq_true rfl⟩) hK hP hG hS (va_recv hK hP (ci := 0) (q0 := 1) rfl (oh_wg (by decide) (sX_1 hT))) rfl hl.1 rfl (Nat.le_of_ble_eq_true rfl) dX0_bearsAll_64 ⟨Nat.le_of_ble_eq_true rfl, Nat.le_of_ble_eq_true rfl⟩ (fun r_17 hq_18 => ?_)
      refine lv_istore (lv' := [(7, .int r_17), (6, .int 1), (5, .int (ga (C 12) ((x1 * 10) + 4).toNatClampNeg)), (4, .int (ga (C 12) ((x1 * 10) + 1).toNatClampNeg)), (3, .int (x1 * 10)), (0, .ref (a 1)), (1, .int x1), (2, .int x2)]) hx hb dX0_bearsAll_67 hl (by decide) rfl (fun ls hl => ?_)
      refine lv_iload_n hx hb dX0_bearsAll_69 rfl (lv_at hl 7 rfl) ?_
      refine lv_if_eq (tgt := 99) hx hb dX0_bearsAll_70 (by decide) (fun (c_19 : x2 = 0) => ?_) (fun (c_19 : ¬ (x2 = 0)) => ?_)
      · refine lv_iload hx hb dX0_bearsAll_99 (lv_at hl 0 rfl) ?_
        rw [hQ]
        exact W.iret (v := r_17) hx hb hr (fun t ht hW => ⟨r_17, rfl, trivial, ht⟩) (fun q h => by cases h) dX0_bearsAll_101
      · refine lv_aload_n hx hb dX0_bearsAll_73 rfl (lv_at hl 5 rfl) ?_
        refine va_get (D := D) (ci := 0) (v := .ref (a 12)) (C := RX0) (T := TX0) (N := 8) hx hb htg ig_0 hown hK hP 1 (oh_wg (by decide) (sX_1 hT)) rfl 2 (by decide) (htg _ q_103) (fun _ h9 => h9) rfl dX0_bearsAll_74 ?_
        refine lv_iload_n hx hb dX0_bearsAll_77 rfl (lv_at hl 4 rfl) ?_
        refine lv_bipush (v := 8) hx hb dX0_bearsAll_78 (by decide) ?_
        refine lv_iadd hx hb dX0_bearsAll_80 ?_
        have n_20 : vp_in ((x1 * 10) + 8) 160 := (rg_in (rg_add (lo := 8) (hi := 158) (rg_mul (lo := 0) (hi := 150) hx1 (rg_c (v := 10) (lo := 10) (hi := 10) (by decide)) (by decide)) (rg_c (v := 8) (lo := 8) (hi := 8) (by decide)) (by decide)) (by decide))
        refine th_iald hx hb hK hP 12 (by decide) (sX_12 hT) n_20 dX0_bearsAll_81 ?_
        refine lv_if_ne (tgt := 99) hx hb dX0_bearsAll_82 (by decide) (fun (c_21 : ¬ ((ga (C 12) ((x1 * 10) + 8).toNatClampNeg) = 0)) => ?_) (fun (c_21 : (ga (C 12) ((x1 * 10) + 8).toNatClampNeg) = 0) => ?_)
        · refine lv_iload hx hb dX0_bearsAll_99 (lv_at hl 0 rfl) ?_
          rw [hQ]
          exact W.iret (v := r_17) hx hb hr (fun t ht hW => ⟨r_17, rfl, trivial, ht⟩) (fun q h => by cases h) dX0_bearsAll_101
        · refine lv_iload hx hb dX0_bearsAll_85 (lv_at hl 0 rfl) ?_
          refine lv_aload_n hx hb dX0_bearsAll_87 rfl (lv_at hl 5 rfl) ?_
          refine va_get (D := D) (ci := 0) (v := .ref (a 12)) (C := RX0) (T := TX0) (N := 8) hx hb htg ig_0 hown hK hP 1 (oh_wg (by decide) (sX_1 hT)) rfl 2 (by decide) (htg _ q_103) (fun _ h9 => h9) rfl dX0_bearsAll_88 ?_
          refine lv_iload_n hx hb dX0_bearsAll_91 rfl (lv_at hl 4 rfl) ?_
          refine lv_iconst (v := 5) hx hb dX0_bearsAll_92 (by decide) ?_
          refine lv_iadd hx hb dX0_bearsAll_93 ?_
          have n_22 : vp_in ((x1 * 10) + 5) 160 := (rg_in (rg_add (lo := 5) (hi := 155) (rg_mul (lo := 0) (hi := 150) hx1 (rg_c (v := 10) (lo := 10) (hi := 10) (by decide)) (by decide)) (rg_c (v := 5) (lo := 5) (hi := 5) (by decide)) (by decide)) (by decide))
          refine th_iald hx hb hK hP 12 (by decide) (sX_12 hT) n_22 dX0_bearsAll_94 ?_
          refine lv_iadd hx hb dX0_bearsAll_95 ?_
          refine lv_goto (tgt := 101) hx hb dX0_bearsAll_96 (by decide) ?_
          rw [hQ]
          exact W.iret (v := r_17 + (ga (C 12) ((x1 * 10) + 5).toNatClampNeg)) hx hb hr (fun t ht hW => ⟨r_17 + (ga (C 12) ((x1 * 10) + 5).toNatClampNeg), rfl, trivial, ht⟩) (fun q h => by cases h) dX0_bearsAll_101

set_option maxHeartbeats 4000000 in
set_option maxRecDepth 100000 in
theorem c_X1_take (l : Launch) (D : va_G) (E : Nat → ClassId) (G : Nat → Nat) (sz : Nat) (a : Nat → Nat) (C : Nat → va_E) (hT : TyX a E C) (x1 : Int32) (x2 : Int32) (hx1 : rg x1 0 4) : Met l yX1_take (oh_w yX1_take cX1_take 5 none) ({ frames := 2, cells := 0, slots := 0, locals := 43 }) (oh_Pm D E G [.ref (a 9), .ref (a 1), .int x1, .int x2] (oh_W 35 a C) sz) (va_Qv (fun (u : Nat → va_E) => TyX a E u ∧ fr [(9, 10)] [] C u ∧ True) (oh_B D (va_A (oh_W 35 a C) sz) (fun u => oh_W 35 a u)) (va_A (oh_W 35 a C) sz)) 0 0 (va_A (oh_W 35 a C) sz) := by
  refine Met.ofW (cc := cX1_take) (maxL := 5) (ret := none) (by decide) rfl ?_
  intro p e s m args below meth c s₁ B hml hv
  obtain ⟨rfl, hsz, hP, hK, hD0, hG⟩ := hv
  have hx := B.exec
  have hb := B.bytes
  have hr := B.returns
  have hts := atoms_spec (ws := (oh_w yX1_take cX1_take 5 none)) B.pre
  have htg : ∀ w ∈ oh_t, w.before _ s = true := fun w h => hts w (List.mem_cons_of_mem _ h)
  have hown : s.vm.findClass RX1 = some m.cls := findClass_of_methodNamed B.named
  have hlocks := B.notSynchronized
  have hT0 := hT
  subst hsz
  have hD := hD0.self (sz := s.heap.size)
  generalize hAe : va_A (oh_W 35 a C) s.heap.size = A at hD hG ⊢
  have hA : ∀ q : Nat, s.heap.size ≤ q → A q := fun q h => by rw [← hAe]; exact Or.inr h
  have hS : va_S A s.heap s.heap [] := va_S.rf
  have hF : fr [(9, 10)] [] C C := fr_rf
  have hl := lv_entry ([.ref (a 9), .ref (a 1), .int x1, .int x2]) (n := 5) (Nat.le_of_ble_eq_true rfl)
  rw [lg_entry_eq]
  generalize (lg_sl ([.ref (a 9), .ref (a 1), .int x1, .int x2]) ++ List.replicate (5 - (lg_sl ([.ref (a 9), .ref (a 1), .int x1, .int x2])).length) Slot.unset).toArray = ls at hl ⊢
  have hl : lv_has ls 5 [(0, .ref (a 9)), (1, .ref (a 1)), (2, .int x1), (3, .int x2)] := hl
  refine oh_genQ (fun Q hQ => ?_)
  refine lv_aload_n hx hb dX1_take_0 rfl (lv_at hl 0 rfl) ?_
  refine lv_aload_n hx hb dX1_take_1 rfl (lv_at hl 1 rfl) ?_
  refine lv_iload_n hx hb dX1_take_2 rfl (lv_at hl 2 rfl) ?_
  refine lv_iconst (v := 0) hx hb dX1_take_3 (by decide) ?_
  refine tq_V (As := [.int x1, .int 0]) (rest := [.ref (a 9)]) (ws := (oh_W 35 a C)) ⟨hx, hb, hml, hown, htg⟩ (c_X0_ofWaggon l D E G a C hT x1 (0 : Int32) (rg_w hx1 (by decide)) (rg_w (rg_c (v := 0) (lo := 0) (hi := 0) (by decide)) (by decide))) (cwV 2 htg (oh_gV q_707 q_688 q_689 q_67 q_690) rfl rfl rfl pdVX0_ofWaggon ⟨Nat.le_of_ble_eq_true rfl, Nat.le_of_ble_eq_true rfl⟩) hK hP hG hS (va_recv hK hP (ci := 0) (q0 := 1) rfl (oh_wg (by decide) (sX_1 hT))) rfl hl.1 rfl (Nat.le_of_ble_eq_true rfl) dX1_take_4 ⟨Nat.le_of_ble_eq_true rfl, Nat.le_of_ble_eq_true rfl⟩ (fun r_1 hq_2 => ?_)
  subst hq_2
  refine th_put (Tp := TyX a E) (Rl := fr [(9, 10)] [] C) (ci := 1) (v := .int (ga (C 13) ((x1 * 3) + 0).toNatClampNeg)) (ty := .int) (CC := RX1) (T := TX1) (N := 5) hx hb htg ig_1 tyX1 tyX1_ok nmX1 hown hK hP hD hS 9 (by decide) (sX_9 hT) rfl 0 (by decide) (htg _ q_145) (fun _ h9 => h9) rfl (by decide +kernel) rfl rfl (Nat.le_of_ble_eq_true rfl) (hT.up 9 rfl) (fr_st hF (by decide) (by decide)) dX1_take_7 (fun C_3 H locs e_4 hT hF hP hD hS => ?_)
  have t_5 := hT
  refine lv_aload_n hx hb dX1_take_10 rfl (lv_at hl 0 rfl) ?_
  refine lv_aload_n hx hb dX1_take_11 rfl (lv_at hl 1 rfl) ?_
  refine lv_iload_n hx hb dX1_take_12 rfl (lv_at hl 2 rfl) ?_
  refine lv_iconst (v := 1) hx hb dX1_take_13 (by decide) ?_
  refine tq_V (As := [.int x1, .int 1]) (rest := [.ref (a 9)]) (ws := (oh_W 35 a C_3)) ⟨hx, hb, hml, hown, htg⟩ (c_X0_ofWaggon l D E G a C_3 hT x1 (1 : Int32) (rg_w hx1 (by decide)) (rg_w (rg_c (v := 1) (lo := 1) (hi := 1) (by decide)) (by decide))) (cwV 2 htg (oh_gV q_707 q_688 q_689 q_67 q_690) rfl rfl rfl pdVX0_ofWaggon ⟨Nat.le_of_ble_eq_true rfl, Nat.le_of_ble_eq_true rfl⟩) hK hP hG hS (va_recv hK hP (ci := 0) (q0 := 1) rfl (oh_wg (by decide) (sX_1 hT))) rfl hl.1 rfl (Nat.le_of_ble_eq_true rfl) dX1_take_14 ⟨Nat.le_of_ble_eq_true rfl, Nat.le_of_ble_eq_true rfl⟩ (fun r_6 hq_7 => ?_)
  subst hq_7
  refine th_put (Tp := TyX a E) (Rl := fr [(9, 10)] [] C) (ci := 1) (v := .int (ga (C_3 13) ((x1 * 3) + 1).toNatClampNeg)) (ty := .int) (CC := RX1) (T := TX1) (N := 5) hx hb htg ig_1 tyX1 tyX1_ok nmX1 hown hK hP hD hS 9 (by decide) (sX_9 hT) rfl 1 (by decide) (htg _ q_146) (fun _ h9 => h9) rfl (by decide +kernel) rfl rfl (Nat.le_of_ble_eq_true rfl) (hT.up 9 rfl) (fr_st hF (by decide) (by decide)) dX1_take_17 (fun C_8 H locs e_9 hT hF hP hD hS => ?_)
  have t_10 := hT
  refine lv_aload_n hx hb dX1_take_20 rfl (lv_at hl 0 rfl) ?_
  refine lv_aload_n hx hb dX1_take_21 rfl (lv_at hl 1 rfl) ?_
  refine lv_iload_n hx hb dX1_take_22 rfl (lv_at hl 2 rfl) ?_
  refine tq_V (As := [.int x1]) (rest := [.ref (a 9)]) (ws := (oh_W 35 a C_8)) ⟨hx, hb, hml, hown, htg⟩ (c_X0_waggonLength l D E G a C_8 hT x1 (rg_w hx1 (by decide))) (cwV 1 htg (oh_gV q_708 q_684 q_685 q_67 q_686) rfl rfl rfl pdVX0_waggonLength ⟨Nat.le_of_ble_eq_true rfl, Nat.le_of_ble_eq_true rfl⟩) hK hP hG hS (va_recv hK hP (ci := 0) (q0 := 1) rfl (oh_wg (by decide) (sX_1 hT))) rfl hl.1 rfl (Nat.le_of_ble_eq_true rfl) dX1_take_23 ⟨Nat.le_of_ble_eq_true rfl, Nat.le_of_ble_eq_true rfl⟩ (fun r_11 hq_12 => ?_)
  refine th_put (Tp := TyX a E) (Rl := fr [(9, 10)] [] C) (ci := 1) (v := .int r_11) (ty := .int) (CC := RX1) (T := TX1) (N := 5) hx hb htg ig_1 tyX1 tyX1_ok nmX1 hown hK hP hD hS 9 (by decide) (sX_9 hT) rfl 2 (by decide) (htg _ q_147) (fun _ h9 => h9) rfl (by decide +kernel) rfl rfl (Nat.le_of_ble_eq_true rfl) (hT.up 9 rfl) (fr_st hF (by decide) (by decide)) dX1_take_26 (fun C_13 H locs e_14 hT hF hP hD hS => ?_)
  have t_15 := hT
  refine lv_aload_n hx hb dX1_take_29 rfl (lv_at hl 1 rfl) ?_
  refine lv_iload_n hx hb dX1_take_30 rfl (lv_at hl 2 rfl) ?_
  refine lv_iconst (v := 2) hx hb dX1_take_31 (by decide) ?_
  refine tq_V (As := [.int x1, .int 2]) (rest := []) (ws := (oh_W 35 a C_13)) ⟨hx, hb, hml, hown, htg⟩ (c_X0_ofWaggon l D E G a C_13 hT x1 (2 : Int32) (rg_w hx1 (by decide)) (rg_w (rg_c (v := 2) (lo := 2) (hi := 2) (by decide)) (by decide))) (cwV 2 htg (oh_gV q_707 q_688 q_689 q_67 q_690) rfl rfl rfl pdVX0_ofWaggon ⟨Nat.le_of_ble_eq_true rfl, Nat.le_of_ble_eq_true rfl⟩) hK hP hG hS (va_recv hK hP (ci := 0) (q0 := 1) rfl (oh_wg (by decide) (sX_1 hT))) rfl hl.1 rfl (Nat.le_of_ble_eq_true rfl) dX1_take_32 ⟨Nat.le_of_ble_eq_true rfl, Nat.le_of_ble_eq_true rfl⟩ (fun r_16 hq_17 => ?_)
  subst hq_17
  refine lv_aload_n hx hb dX1_take_35 rfl (lv_at hl 1 rfl) ?_
  refine va_get (D := D) (ci := 0) (v := .ref (a 15)) (C := RX0) (T := TX0) (N := 8) hx hb htg ig_0 hown hK hP 1 (oh_wg (by decide) (sX_1 hT)) rfl 5 (by decide) (htg _ q_108) (fun _ h9 => h9) rfl dX1_take_36 ?_
  refine lv_iconst (v := 0) hx hb dX1_take_39 (by decide) ?_
  refine th_iald hx hb hK hP 15 (by decide) (Eq.trans (Eq.trans (th_un e_14 (by decide)) (Eq.trans (th_un e_9 (by decide)) (th_un e_4 (by decide)))) (sX_15 hT0)) (rg_in (rg_c (v := 0) (lo := 0) (hi := 0) (by decide)) (by decide)) dX1_take_40 ?_
  refine lv_iadd hx hb dX1_take_41 ?_
  refine lv_aload_n hx hb dX1_take_42 rfl (lv_at hl 1 rfl) ?_
  refine lv_iload_n hx hb dX1_take_43 rfl (lv_at hl 3 rfl) ?_
  refine lv_iconst (v := 0) hx hb dX1_take_44 (by decide) ?_
  refine tq_V (As := [.int x2, .int 0]) (rest := [.int ((ga (C_13 13) ((x1 * 3) + 2).toNatClampNeg) + (ga (C 15) ((0 : Int32)).toNatClampNeg))]) (ws := (oh_W 35 a C_13)) ⟨hx, hb, hml, hown, htg⟩ (c_X0_sumOfParts l D E G a C_13 hT x2 (0 : Int32) (rg_w (rg_c (v := 0) (lo := 0) (hi := 0) (by decide)) (by decide))) (cwV 2 htg (oh_gV q_709 q_710 q_711 q_67 q_712) rfl rfl rfl pdVX0_sumOfParts ⟨Nat.le_of_ble_eq_true rfl, Nat.le_of_ble_eq_true rfl⟩) hK hP hG hS (va_recv hK hP (ci := 0) (q0 := 1) rfl (oh_wg (by decide) (sX_1 hT))) rfl hl.1 rfl (Nat.le_of_ble_eq_true rfl) dX1_take_45 ⟨Nat.le_of_ble_eq_true rfl, Nat.le_of_ble_eq_true rfl⟩ (fun r_18 hq_19 => ?_)
  refine lv_isub hx hb dX1_take_48 ?_
  refine lv_istore (lv' := [(4, .int (((ga (C_13 13) ((x1 * 3) + 2).toNatClampNeg) + (ga (C 15) ((0 : Int32)).toNatClampNeg)) - r_18)), (0, .ref (a 9)), (1, .ref (a 1)), (2, .int x1), (3, .int x2)]) hx hb dX1_take_49 hl (by decide) rfl (fun ls hl => ?_)
  refine lv_aload_n hx hb dX1_take_51 rfl (lv_at hl 1 rfl) ?_
  refine lv_iload hx hb dX1_take_52 (lv_at hl 0 rfl) ?_
  refine lv_iconst (v := 0) hx hb dX1_take_54 (by decide) ?_
  refine va_mmax hx hb (by rw [hml]; exact hl.1.symm) hown (htg _ q_713) (htg _ q_714) (htg _ q_79) (htg _ q_715) (Nat.le_of_ble_eq_true rfl) (Nat.le_of_ble_eq_true rfl) (Nat.le_of_ble_eq_true rfl) (Nat.le_of_ble_eq_true rfl) dX1_take_55 ?_
  refine lv_aload_n hx hb dX1_take_58 rfl (lv_at hl 1 rfl) ?_
  refine va_get (D := D) (ci := 1) (v := .int (ga (C 13) ((x1 * 3) + 0).toNatClampNeg)) (C := RX1) (T := TX1) (N := 5) hx hb htg ig_1 hown hK hP 9 (oh_wg (by decide) (sX_9 hT)) rfl 0 (by decide) (htg _ q_145) (fun _ h9 => h9) (oh_fv (c := C_13 9) (j := 0) rfl (Eq.trans (show gi (C_13 9) 0 = gi (C_8 9) 0 by rw [e_14]; rfl) (Eq.trans (show gi (C_8 9) 0 = gi (C_3 9) 0 by rw [e_9]; rfl) (show gi (C_3 9) 0 = (ga (C 13) ((x1 * 3) + 0).toNatClampNeg) by rw [e_4]; rfl)))) dX1_take_59 ?_
  refine tq_SN (As := [.int (if ((ga (C_13 13) ((x1 * 3) + 2).toNatClampNeg) + (ga (C 15) ((0 : Int32)).toNatClampNeg)) - r_18 < 0 then 0 else ((ga (C_13 13) ((x1 * 3) + 2).toNatClampNeg) + (ga (C 15) ((0 : Int32)).toNatClampNeg)) - r_18), .int (ga (C 13) ((x1 * 3) + 0).toNatClampNeg)]) (rest := [.ref (a 9)]) (ws := []) ⟨hx, hb, hml, hown, htg⟩ (c_X6_roundedUp l D E G (if ((ga (C_13 13) ((x1 * 3) + 2).toNatClampNeg) + (ga (C 15) ((0 : Int32)).toNatClampNeg)) - r_18 < 0 then 0 else ((ga (C_13 13) ((x1 * 3) + 2).toNatClampNeg) + (ga (C 15) ((0 : Int32)).toNatClampNeg)) - r_18) (ga (C 13) ((x1 * 3) + 0).toNatClampNeg)) ⟨va_cnB (y := yX6_roundedUp) 2 htg (oh_gW q_718) rfl rfl rfl (hG.1 ("OneHeavyLoad$Pack", 43, ⟨"OneHeavyLoad", "roundedUp", "(II)I"⟩, "OneHeavyLoad") (List.mem_of_getElem? (i := 3) rfl)) (htg _ q_66) pdX6_roundedUp ⟨Nat.le_of_ble_eq_true rfl, Nat.le_of_ble_eq_true rfl⟩, htg _ q_717, trivial⟩ hK va_nil hG hS rfl hl.1 rfl (Nat.le_of_ble_eq_true rfl) dX1_take_62 ⟨Nat.le_of_ble_eq_true rfl, Nat.le_of_ble_eq_true rfl⟩ (fun r_20 hq_21 => ?_)
  refine th_put (Tp := TyX a E) (Rl := fr [(9, 10)] [] C) (ci := 1) (v := .int r_20) (ty := .int) (CC := RX1) (T := TX1) (N := 5) hx hb htg ig_1 tyX1 tyX1_ok nmX1 hown hK hP hD hS 9 (by decide) (sX_9 hT) rfl 3 (by decide) (htg _ q_149) (fun _ h9 => h9) rfl (by decide +kernel) rfl rfl (Nat.le_of_ble_eq_true rfl) (hT.up 9 rfl) (fr_st hF (by decide) (by decide)) dX1_take_65 (fun C_22 H locs e_23 hT hF hP hD hS => ?_)
  have t_24 := hT
  refine lv_aload_n hx hb dX1_take_68 rfl (lv_at hl 1 rfl) ?_
  refine lv_aload_n hx hb dX1_take_69 rfl (lv_at hl 2 rfl) ?_
  refine lv_iload_n hx hb dX1_take_70 rfl (lv_at hl 4 rfl) ?_
  refine lv_iconst (v := 1) hx hb dX1_take_71 (by decide) ?_
  refine tq_V (As := [.int x2, .int 1]) (rest := [.ref (a 9)]) (ws := (oh_W 35 a C_22)) ⟨hx, hb, hml, hown, htg⟩ (c_X0_sumOfParts l D E G a C_22 hT x2 (1 : Int32) (rg_w (rg_c (v := 1) (lo := 1) (hi := 1) (by decide)) (by decide))) (cwV 2 htg (oh_gV q_709 q_710 q_711 q_67 q_712) rfl rfl rfl pdVX0_sumOfParts ⟨Nat.le_of_ble_eq_true rfl, Nat.le_of_ble_eq_true rfl⟩) hK hP hG hS (va_recv hK hP (ci := 0) (q0 := 1) rfl (oh_wg (by decide) (sX_1 hT))) rfl hl.1 rfl (Nat.le_of_ble_eq_true rfl) dX1_take_72 ⟨Nat.le_of_ble_eq_true rfl, Nat.le_of_ble_eq_true rfl⟩ (fun r_25 hq_26 => ?_)
  refine th_put (Tp := TyX a E) (Rl := fr [(9, 10)] [] C) (ci := 1) (v := .int r_25) (ty := .int) (CC := RX1) (T := TX1) (N := 5) hx hb htg ig_1 tyX1 tyX1_ok nmX1 hown hK hP hD hS 9 (by decide) (sX_9 hT) rfl 4 (by decide) (htg _ q_152) (fun _ h9 => h9) rfl (by decide +kernel) rfl rfl (Nat.le_of_ble_eq_true rfl) (hT.up 9 rfl) (fr_st hF (by decide) (by decide)) dX1_take_75 (fun C_27 H locs e_28 hT hF hP hD hS => ?_)
  have t_29 := hT
  rw [hQ]
  exact W.vret hx hb hr (fun t ht hW => ⟨⟨C_27, rfl, ⟨hT, hF, trivial⟩, ⟨by rw [ht]; exact hP, hD⟩⟩, hS.F ht⟩) hS.2.2 dX1_take_78

set_option maxHeartbeats 4000000 in
set_option maxRecDepth 100000 in
theorem c_X1_strainOn (l : Launch) (D : va_G) (E : Nat → ClassId) (G : Nat → Nat) (a : Nat → Nat) (C : Nat → va_E) (hT : TyX a E C) (x1 : Int32) : Met l yX1_strainOn (oh_w yX1_strainOn cX1_strainOn 2 (some .int)) ({ frames := 1, cells := 0, slots := 0, locals := 21 }) (oh_Pp D E G [.ref (a 9), .int x1] (oh_W 35 a C)) (vp_Si (fun r => True)) 0 0 (fun _ => False) := by
  refine Met.ofW (cc := cX1_strainOn) (maxL := 2) (ret := (some .int)) (by decide) rfl ?_
  intro p e s m args below meth c s₁ B hml hv
  obtain ⟨rfl, hP, hK, hG⟩ := hv
  have hx := B.exec
  have hb := B.bytes
  have hr := B.returns
  have hts := atoms_spec (ws := (oh_w yX1_strainOn cX1_strainOn 2 (some .int))) B.pre
  have htg : ∀ w ∈ oh_t, w.before _ s = true := fun w h => hts w (List.mem_cons_of_mem _ h)
  have hown : s.vm.findClass RX1 = some m.cls := findClass_of_methodNamed B.named
  have hlocks := B.notSynchronized
  have hT0 := hT
  have hS : va_S (fun _ => False) s.heap s.heap [] := va_S.rf
  have hl := lv_entry ([.ref (a 9), .int x1]) (n := 2) (Nat.le_of_ble_eq_true rfl)
  rw [lg_entry_eq]
  generalize (lg_sl ([.ref (a 9), .int x1]) ++ List.replicate (2 - (lg_sl ([.ref (a 9), .int x1])).length) Slot.unset).toArray = ls at hl ⊢
  have hl : lv_has ls 2 [(0, .ref (a 9)), (1, .int x1)] := hl
  refine oh_genQ (fun Q hQ => ?_)
  refine lv_aload_n hx hb dX1_strainOn_0 rfl (lv_at hl 0 rfl) ?_
  refine va_get (D := D) (ci := 1) (v := .int (gi (C 9) 0)) (C := RX1) (T := TX1) (N := 5) hx hb htg ig_1 hown hK hP 9 (oh_wg (by decide) (sX_9 hT)) rfl 0 (by decide) (htg _ q_145) (fun _ h9 => h9) rfl dX1_strainOn_1 ?_
  refine lv_iload_n hx hb dX1_strainOn_4 rfl (lv_at hl 1 rfl) ?_
  refine lv_aload_n hx hb dX1_strainOn_5 rfl (lv_at hl 0 rfl) ?_
  refine va_get (D := D) (ci := 1) (v := .int (gi (C 9) 1)) (C := RX1) (T := TX1) (N := 5) hx hb htg ig_1 hown hK hP 9 (oh_wg (by decide) (sX_9 hT)) rfl 1 (by decide) (htg _ q_146) (fun _ h9 => h9) rfl dX1_strainOn_6 ?_
  refine tq_SN (As := [.int x1, .int (gi (C 9) 1)]) (rest := [.int (gi (C 9) 0)]) (ws := []) ⟨hx, hb, hml, hown, htg⟩ (c_X6_cut l D E G x1 (gi (C 9) 1)) ⟨va_cnB (y := yX6_cut) 2 htg (oh_gW q_729) rfl rfl rfl (hG.1 ("OneHeavyLoad$Pack", 52, ⟨"OneHeavyLoad", "cut", "(II)I"⟩, "OneHeavyLoad") (List.mem_of_getElem? (i := 4) rfl)) (htg _ q_66) pdX6_cut ⟨Nat.le_of_ble_eq_true rfl, Nat.le_of_ble_eq_true rfl⟩, htg _ q_728, trivial⟩ hK va_nil hG hS rfl hl.1 rfl (Nat.le_of_ble_eq_true rfl) dX1_strainOn_9 ⟨Nat.le_of_ble_eq_true rfl, Nat.le_of_ble_eq_true rfl⟩ (fun r_1 hq_2 => ?_)
  refine lv_iconst (v := 1) hx hb dX1_strainOn_12 (by decide) ?_
  refine lv_iadd hx hb dX1_strainOn_13 ?_
  refine va_mmin hx hb (by rw [hml]; exact hl.1.symm) hown (htg _ q_730) (htg _ q_731) (htg _ q_79) (htg _ q_732) (Nat.le_of_ble_eq_true rfl) (Nat.le_of_ble_eq_true rfl) (Nat.le_of_ble_eq_true rfl) (Nat.le_of_ble_eq_true rfl) dX1_strainOn_14 ?_
  refine lv_aload_n hx hb dX1_strainOn_17 rfl (lv_at hl 0 rfl) ?_
  refine va_get (D := D) (ci := 1) (v := .int (gi (C 9) 3)) (C := RX1) (T := TX1) (N := 5) hx hb htg ig_1 hown hK hP 9 (oh_wg (by decide) (sX_9 hT)) rfl 3 (by decide) (htg _ q_149) (fun _ h9 => h9) rfl dX1_strainOn_18 ?_
  refine lv_imul hx hb dX1_strainOn_21 ?_
  rw [hQ]
  exact W.iret (v := (if r_1 + 1 < gi (C 9) 0 then r_1 + 1 else gi (C 9) 0) * (gi (C 9) 3)) hx hb hr (fun t ht hW => ⟨(if r_1 + 1 < gi (C 9) 0 then r_1 + 1 else gi (C 9) 0) * (gi (C 9) 3), rfl, trivial, ht⟩) (fun q h => by cases h) dX1_strainOn_22

set_option maxHeartbeats 4000000 in
set_option maxRecDepth 100000 in
theorem c_X1_needsOf (l : Launch) (D : va_G) (E : Nat → ClassId) (G : Nat → Nat) (a : Nat → Nat) (C : Nat → va_E) (hT : TyX a E C) (x1 : Int32) (hx1 : rg x1 0 15) : Met l yX1_needsOf (oh_w yX1_needsOf cX1_needsOf 5 (some .int)) ({ frames := 2, cells := 0, slots := 0, locals := 51 }) (oh_Pp D E G [.ref (a 9), .ref (a 1), .int x1] (oh_W 35 a C)) (vp_Si (fun r => True)) 0 0 (fun _ => False) := by
  refine Met.ofW (cc := cX1_needsOf) (maxL := 5) (ret := (some .int)) (by decide) rfl ?_
  intro p e s m args below meth c s₁ B hml hv
  obtain ⟨rfl, hP, hK, hG⟩ := hv
  have hx := B.exec
  have hb := B.bytes
  have hr := B.returns
  have hts := atoms_spec (ws := (oh_w yX1_needsOf cX1_needsOf 5 (some .int))) B.pre
  have htg : ∀ w ∈ oh_t, w.before _ s = true := fun w h => hts w (List.mem_cons_of_mem _ h)
  have hown : s.vm.findClass RX1 = some m.cls := findClass_of_methodNamed B.named
  have hlocks := B.notSynchronized
  have hT0 := hT
  have hS : va_S (fun _ => False) s.heap s.heap [] := va_S.rf
  have hl := lv_entry ([.ref (a 9), .ref (a 1), .int x1]) (n := 5) (Nat.le_of_ble_eq_true rfl)
  rw [lg_entry_eq]
  generalize (lg_sl ([.ref (a 9), .ref (a 1), .int x1]) ++ List.replicate (5 - (lg_sl ([.ref (a 9), .ref (a 1), .int x1])).length) Slot.unset).toArray = ls at hl ⊢
  have hl : lv_has ls 5 [(0, .ref (a 9)), (1, .ref (a 1)), (2, .int x1)] := hl
  refine oh_genQ (fun Q hQ => ?_)
  refine lv_aload_n hx hb dX1_needsOf_0 rfl (lv_at hl 0 rfl) ?_
  refine va_get (D := D) (ci := 1) (v := .int (gi (C 9) 3)) (C := RX1) (T := TX1) (N := 5) hx hb htg ig_1 hown hK hP 9 (oh_wg (by decide) (sX_9 hT)) rfl 3 (by decide) (htg _ q_149) (fun _ h9 => h9) rfl dX1_needsOf_1 ?_
  refine lv_aload_n hx hb dX1_needsOf_4 rfl (lv_at hl 1 rfl) ?_
  refine lv_iload_n hx hb dX1_needsOf_5 rfl (lv_at hl 2 rfl) ?_
  refine tq_V (As := [.int x1]) (rest := [.int (gi (C 9) 3)]) (ws := (oh_W 35 a C)) ⟨hx, hb, hml, hown, htg⟩ (c_X0_bearsAxle l D E G a C hT x1 (rg_w hx1 (by decide))) (cwV 1 htg (oh_gV q_741 q_394 q_395 q_67 q_396) rfl rfl rfl pdVX0_bearsAxle ⟨Nat.le_of_ble_eq_true rfl, Nat.le_of_ble_eq_true rfl⟩) hK hP hG hS (va_recv hK hP (ci := 0) (q0 := 1) rfl (oh_wg (by decide) (sX_1 hT))) rfl hl.1 rfl (Nat.le_of_ble_eq_true rfl) dX1_needsOf_6 ⟨Nat.le_of_ble_eq_true rfl, Nat.le_of_ble_eq_true rfl⟩ (fun r_1 hq_2 => ?_)
  refine lv_icmp_le (tgt := 14) hx hb dX1_needsOf_9 (by decide) (fun (c_3 : (gi (C 9) 3) ≤ r_1) => ?_) (fun (c_3 : ¬ ((gi (C 9) 3) ≤ r_1)) => ?_)
  · refine lv_aload_n hx hb dX1_needsOf_14 rfl (lv_at hl 0 rfl) ?_
    refine lv_aload_n hx hb dX1_needsOf_15 rfl (lv_at hl 1 rfl) ?_
    refine lv_iload_n hx hb dX1_needsOf_16 rfl (lv_at hl 2 rfl) ?_
    refine lv_iconst (v := 2) hx hb dX1_needsOf_17 (by decide) ?_
    refine tq_V (As := [.int x1, .int 2]) (rest := [.ref (a 9)]) (ws := (oh_W 35 a C)) ⟨hx, hb, hml, hown, htg⟩ (c_X0_ofBridge l D E G a C hT x1 (2 : Int32) (rg_w hx1 (by decide)) (rg_w (rg_c (v := 2) (lo := 2) (hi := 2) (by decide)) (by decide))) (cwV 2 htg (oh_gV q_742 q_385 q_386 q_67 q_387) rfl rfl rfl pdVX0_ofBridge ⟨Nat.le_of_ble_eq_true rfl, Nat.le_of_ble_eq_true rfl⟩) hK hP hG hS (va_recv hK hP (ci := 0) (q0 := 1) rfl (oh_wg (by decide) (sX_1 hT))) rfl hl.1 rfl (Nat.le_of_ble_eq_true rfl) dX1_needsOf_18 ⟨Nat.le_of_ble_eq_true rfl, Nat.le_of_ble_eq_true rfl⟩ (fun r_4 hq_5 => ?_)
    subst hq_5
    refine tq_V (As := [.int (ga (C 12) ((x1 * 10) + 2).toNatClampNeg)]) (rest := []) (ws := (oh_W 35 a C)) ⟨hx, hb, hml, hown, htg⟩ (c_X1_strainOn l D E G a C hT (ga (C 12) ((x1 * 10) + 2).toNatClampNeg)) (cwV 1 htg (oh_gV q_743 q_724 q_725 q_69 q_726) rfl rfl rfl pdVX1_strainOn ⟨Nat.le_of_ble_eq_true rfl, Nat.le_of_ble_eq_true rfl⟩) hK hP hG hS (va_recv hK hP (ci := 1) (q0 := 9) rfl (oh_wg (by decide) (sX_9 hT))) rfl hl.1 rfl (Nat.le_of_ble_eq_true rfl) dX1_needsOf_21 ⟨Nat.le_of_ble_eq_true rfl, Nat.le_of_ble_eq_true rfl⟩ (fun r_6 hq_7 => ?_)
    refine lv_istore_n (lv' := [(3, .int r_6), (0, .ref (a 9)), (1, .ref (a 1)), (2, .int x1)]) hx hb dX1_needsOf_24 rfl hl (by decide) rfl (fun ls hl => ?_)
    refine lv_aload_n hx hb dX1_needsOf_25 rfl (lv_at hl 2 rfl) ?_
    refine lv_iload_n hx hb dX1_needsOf_26 rfl (lv_at hl 3 rfl) ?_
    refine tq_V (As := [.int x1]) (rest := []) (ws := (oh_W 35 a C)) ⟨hx, hb, hml, hown, htg⟩ (c_X0_isPropped l D E G a C hT x1 (rg_w hx1 (by decide))) (cwV 1 htg (oh_gV q_744 q_402 q_403 q_67 q_404) rfl rfl rfl pdVX0_isPropped ⟨Nat.le_of_ble_eq_true rfl, Nat.le_of_ble_eq_true rfl⟩) hK hP hG hS (va_recv hK hP (ci := 0) (q0 := 1) rfl (oh_wg (by decide) (sX_1 hT))) rfl hl.1 rfl (Nat.le_of_ble_eq_true rfl) dX1_needsOf_27 ⟨Nat.le_of_ble_eq_true rfl, Nat.le_of_ble_eq_true rfl⟩ (fun r_8 hq_9 => ?_)
    refine lv_istore (lv' := [(4, .int r_8), (3, .int r_6), (0, .ref (a 9)), (1, .ref (a 1)), (2, .int x1)]) hx hb dX1_needsOf_30 hl (by decide) rfl (fun ls hl => ?_)
    refine lv_iload_n hx hb dX1_needsOf_32 rfl (lv_at hl 1 rfl) ?_
    refine lv_aload_n hx hb dX1_needsOf_33 rfl (lv_at hl 3 rfl) ?_
    refine lv_iload_n hx hb dX1_needsOf_34 rfl (lv_at hl 4 rfl) ?_
    refine lv_iload hx hb dX1_needsOf_35 (lv_at hl 0 rfl) ?_
    refine tq_V (As := [.int x1, .int r_8]) (rest := [.int r_6]) (ws := (oh_W 35 a C)) ⟨hx, hb, hml, hown, htg⟩ (c_X0_bearsAll l D E G a C hT x1 r_8 (rg_w hx1 (by decide)) (rg_w (oh_rgb hq_9) (by decide))) (cwV 2 htg (oh_gV q_745 q_406 q_407 q_67 q_408) rfl rfl rfl pdVX0_bearsAll ⟨Nat.le_of_ble_eq_true rfl, Nat.le_of_ble_eq_true rfl⟩) hK hP hG hS (va_recv hK hP (ci := 0) (q0 := 1) rfl (oh_wg (by decide) (sX_1 hT))) rfl hl.1 rfl (Nat.le_of_ble_eq_true rfl) dX1_needsOf_37 ⟨Nat.le_of_ble_eq_true rfl, Nat.le_of_ble_eq_true rfl⟩ (fun r_10 hq_11 => ?_)
    refine lv_icmp_gt (tgt := 45) hx hb dX1_needsOf_40 (by decide) (fun (c_12 : r_10 < r_6) => ?_) (fun (c_12 : ¬ (r_10 < r_6)) => ?_)
    · refine lv_iload hx hb dX1_needsOf_45 (lv_at hl 0 rfl) ?_
      refine lv_if_ne (tgt := 60) hx hb dX1_needsOf_47 (by decide) (fun (c_13 : ¬ (r_8 = 0)) => ?_) (fun (c_13 : r_8 = 0) => ?_)
      · refine lv_iconst (v := 2) hx hb dX1_needsOf_60 (by decide) ?_
        rw [hQ]
        exact W.iret (v := 2) hx hb hr (fun t ht hW => ⟨2, rfl, trivial, ht⟩) (fun q h => by cases h) dX1_needsOf_61
      · refine lv_aload_n hx hb dX1_needsOf_50 rfl (lv_at hl 3 rfl) ?_
        refine lv_iload_n hx hb dX1_needsOf_51 rfl (lv_at hl 4 rfl) ?_
        refine lv_iconst (v := 1) hx hb dX1_needsOf_52 (by decide) ?_
        refine tq_V (As := [.int x1, .int 1]) (rest := []) (ws := (oh_W 35 a C)) ⟨hx, hb, hml, hown, htg⟩ (c_X0_ofBridge l D E G a C hT x1 (1 : Int32) (rg_w hx1 (by decide)) (rg_w (rg_c (v := 1) (lo := 1) (hi := 1) (by decide)) (by decide))) (cwV 2 htg (oh_gV q_742 q_385 q_386 q_67 q_387) rfl rfl rfl pdVX0_ofBridge ⟨Nat.le_of_ble_eq_true rfl, Nat.le_of_ble_eq_true rfl⟩) hK hP hG hS (va_recv hK hP (ci := 0) (q0 := 1) rfl (oh_wg (by decide) (sX_1 hT))) rfl hl.1 rfl (Nat.le_of_ble_eq_true rfl) dX1_needsOf_53 ⟨Nat.le_of_ble_eq_true rfl, Nat.le_of_ble_eq_true rfl⟩ (fun r_14 hq_15 => ?_)
        subst hq_15
        refine lv_iconst (v := 3) hx hb dX1_needsOf_56 (by decide) ?_
        refine lv_icmp_ne (tgt := 62) hx hb dX1_needsOf_57 (by decide) (fun (c_16 : ¬ ((ga (C 12) ((x1 * 10) + 1).toNatClampNeg) = 3)) => ?_) (fun (c_16 : (ga (C 12) ((x1 * 10) + 1).toNatClampNeg) = 3) => ?_)
        · refine lv_iload_n hx hb dX1_needsOf_62 rfl (lv_at hl 1 rfl) ?_
          refine lv_aload_n hx hb dX1_needsOf_63 rfl (lv_at hl 3 rfl) ?_
          refine lv_iload_n hx hb dX1_needsOf_64 rfl (lv_at hl 4 rfl) ?_
          refine lv_iconst (v := 1) hx hb dX1_needsOf_65 (by decide) ?_
          refine tq_V (As := [.int x1, .int 1]) (rest := [.int r_6]) (ws := (oh_W 35 a C)) ⟨hx, hb, hml, hown, htg⟩ (c_X0_bearsAll l D E G a C hT x1 (1 : Int32) (rg_w hx1 (by decide)) (rg_w (rg_c (v := 1) (lo := 1) (hi := 1) (by decide)) (by decide))) (cwV 2 htg (oh_gV q_745 q_406 q_407 q_67 q_408) rfl rfl rfl pdVX0_bearsAll ⟨Nat.le_of_ble_eq_true rfl, Nat.le_of_ble_eq_true rfl⟩) hK hP hG hS (va_recv hK hP (ci := 0) (q0 := 1) rfl (oh_wg (by decide) (sX_1 hT))) rfl hl.1 rfl (Nat.le_of_ble_eq_true rfl) dX1_needsOf_66 ⟨Nat.le_of_ble_eq_true rfl, Nat.le_of_ble_eq_true rfl⟩ (fun r_17 hq_18 => ?_)
          refine lv_icmp_gt (tgt := 76) hx hb dX1_needsOf_69 (by decide) (fun (c_19 : r_17 < r_6) => ?_) (fun (c_19 : ¬ (r_17 < r_6)) => ?_)
          · refine lv_iconst (v := 2) hx hb dX1_needsOf_76 (by decide) ?_
            rw [hQ]
            exact W.iret (v := 2) hx hb hr (fun t ht hW => ⟨2, rfl, trivial, ht⟩) (fun q h => by cases h) dX1_needsOf_77
          · refine lv_iconst (v := 1) hx hb dX1_needsOf_72 (by decide) ?_
            refine lv_goto (tgt := 77) hx hb dX1_needsOf_73 (by decide) ?_
            rw [hQ]
            exact W.iret (v := 1) hx hb hr (fun t ht hW => ⟨1, rfl, trivial, ht⟩) (fun q h => by cases h) dX1_needsOf_77
        · refine lv_iconst (v := 2) hx hb dX1_needsOf_60 (by decide) ?_
          rw [hQ]
          exact W.iret (v := 2) hx hb hr (fun t ht hW => ⟨2, rfl, trivial, ht⟩) (fun q h => by cases h) dX1_needsOf_61
    · refine lv_iconst (v := 0) hx hb dX1_needsOf_43 (by decide) ?_
      rw [hQ]
      exact W.iret (v := 0) hx hb hr (fun t ht hW => ⟨0, rfl, trivial, ht⟩) (fun q h => by cases h) dX1_needsOf_44
  · refine lv_iconst (v := 2) hx hb dX1_needsOf_12 (by decide) ?_
    rw [hQ]
    exact W.iret (v := 2) hx hb hr (fun t ht hW => ⟨2, rfl, trivial, ht⟩) (fun q h => by cases h) dX1_needsOf_13
