theorem dX0_addPart_0 : decode cX0_addPart 0 = .ok (.aload_n 0, 1) := by decide +kernel
theorem dX0_addPart_1 : decode cX0_addPart 1 = .ok (.getfield 13, 3) := by decide +kernel
theorem dX0_addPart_4 : decode cX0_addPart 4 = .ok (.iconst 3, 1) := by decide +kernel
theorem dX0_addPart_5 : decode cX0_addPart 5 = .ok (.iaload, 1) := by decide +kernel
theorem dX0_addPart_6 : decode cX0_addPart 6 = .ok (.iconst 2, 1) := by decide +kernel
theorem dX0_addPart_7 : decode cX0_addPart 7 = .ok (.imul, 1) := by decide +kernel
theorem dX0_addPart_8 : decode cX0_addPart 8 = .ok (.istore_n 3, 1) := by decide +kernel
theorem dX0_addPart_9 : decode cX0_addPart 9 = .ok (.aload_n 0, 1) := by decide +kernel
theorem dX0_addPart_10 : decode cX0_addPart 10 = .ok (.getfield 27, 3) := by decide +kernel
theorem dX0_addPart_13 : decode cX0_addPart 13 = .ok (.iload_n 3, 1) := by decide +kernel
theorem dX0_addPart_14 : decode cX0_addPart 14 = .ok (.iconst 0, 1) := by decide +kernel
theorem dX0_addPart_15 : decode cX0_addPart 15 = .ok (.iadd, 1) := by decide +kernel
theorem dX0_addPart_16 : decode cX0_addPart 16 = .ok (.iload_n 1, 1) := by decide +kernel
theorem dX0_addPart_17 : decode cX0_addPart 17 = .ok (.iastore, 1) := by decide +kernel
theorem dX0_addPart_18 : decode cX0_addPart 18 = .ok (.aload_n 0, 1) := by decide +kernel
theorem dX0_addPart_19 : decode cX0_addPart 19 = .ok (.getfield 27, 3) := by decide +kernel
theorem dX0_addPart_22 : decode cX0_addPart 22 = .ok (.iload_n 3, 1) := by decide +kernel
theorem dX0_addPart_23 : decode cX0_addPart 23 = .ok (.iconst 1, 1) := by decide +kernel
theorem dX0_addPart_24 : decode cX0_addPart 24 = .ok (.iadd, 1) := by decide +kernel
theorem dX0_addPart_25 : decode cX0_addPart 25 = .ok (.iload_n 2, 1) := by decide +kernel
theorem dX0_addPart_26 : decode cX0_addPart 26 = .ok (.iastore, 1) := by decide +kernel
theorem dX0_addPart_27 : decode cX0_addPart 27 = .ok (.aload_n 0, 1) := by decide +kernel
theorem dX0_addPart_28 : decode cX0_addPart 28 = .ok (.getfield 13, 3) := by decide +kernel
theorem dX0_addPart_31 : decode cX0_addPart 31 = .ok (.iconst 3, 1) := by decide +kernel
theorem dX0_addPart_32 : decode cX0_addPart 32 = .ok (.dup2, 1) := by decide +kernel
theorem dX0_addPart_33 : decode cX0_addPart 33 = .ok (.iaload, 1) := by decide +kernel
theorem dX0_addPart_34 : decode cX0_addPart 34 = .ok (.dup_x2, 1) := by decide +kernel
theorem dX0_addPart_35 : decode cX0_addPart 35 = .ok (.iconst 1, 1) := by decide +kernel
theorem dX0_addPart_36 : decode cX0_addPart 36 = .ok (.iadd, 1) := by decide +kernel
theorem dX0_addPart_37 : decode cX0_addPart 37 = .ok (.iastore, 1) := by decide +kernel
theorem dX0_addPart_38 : decode cX0_addPart 38 = .ok (.ireturn, 1) := by decide +kernel
theorem dX0_addRoad_0 : decode cX0_addRoad 0 = .ok (.aload_n 0, 1) := by decide +kernel
theorem dX0_addRoad_1 : decode cX0_addRoad 1 = .ok (.getfield 13, 3) := by decide +kernel
theorem dX0_addRoad_4 : decode cX0_addRoad 4 = .ok (.iconst 0, 1) := by decide +kernel
theorem dX0_addRoad_5 : decode cX0_addRoad 5 = .ok (.iaload, 1) := by decide +kernel
theorem dX0_addRoad_6 : decode cX0_addRoad 6 = .ok (.bipush 7, 2) := by decide +kernel
theorem dX0_addRoad_8 : decode cX0_addRoad 8 = .ok (.imul, 1) := by decide +kernel
theorem dX0_addRoad_9 : decode cX0_addRoad 9 = .ok (.istore 7, 2) := by decide +kernel
theorem dX0_addRoad_11 : decode cX0_addRoad 11 = .ok (.aload_n 0, 1) := by decide +kernel
theorem dX0_addRoad_12 : decode cX0_addRoad 12 = .ok (.getfield 18, 3) := by decide +kernel
theorem dX0_addRoad_15 : decode cX0_addRoad 15 = .ok (.iload 7, 2) := by decide +kernel
theorem dX0_addRoad_17 : decode cX0_addRoad 17 = .ok (.iconst 0, 1) := by decide +kernel
theorem dX0_addRoad_18 : decode cX0_addRoad 18 = .ok (.iadd, 1) := by decide +kernel
theorem dX0_addRoad_19 : decode cX0_addRoad 19 = .ok (.iload_n 1, 1) := by decide +kernel
theorem dX0_addRoad_20 : decode cX0_addRoad 20 = .ok (.iastore, 1) := by decide +kernel
theorem dX0_addRoad_21 : decode cX0_addRoad 21 = .ok (.aload_n 0, 1) := by decide +kernel
theorem dX0_addRoad_22 : decode cX0_addRoad 22 = .ok (.getfield 18, 3) := by decide +kernel
theorem dX0_addRoad_25 : decode cX0_addRoad 25 = .ok (.iload 7, 2) := by decide +kernel
theorem dX0_addRoad_27 : decode cX0_addRoad 27 = .ok (.iconst 1, 1) := by decide +kernel
theorem dX0_addRoad_28 : decode cX0_addRoad 28 = .ok (.iadd, 1) := by decide +kernel
theorem dX0_addRoad_29 : decode cX0_addRoad 29 = .ok (.iload_n 2, 1) := by decide +kernel
theorem dX0_addRoad_30 : decode cX0_addRoad 30 = .ok (.iastore, 1) := by decide +kernel
theorem dX0_addRoad_31 : decode cX0_addRoad 31 = .ok (.aload_n 0, 1) := by decide +kernel
theorem dX0_addRoad_32 : decode cX0_addRoad 32 = .ok (.getfield 18, 3) := by decide +kernel
theorem dX0_addRoad_35 : decode cX0_addRoad 35 = .ok (.iload 7, 2) := by decide +kernel
theorem dX0_addRoad_37 : decode cX0_addRoad 37 = .ok (.iconst 2, 1) := by decide +kernel
theorem dX0_addRoad_38 : decode cX0_addRoad 38 = .ok (.iadd, 1) := by decide +kernel
theorem dX0_addRoad_39 : decode cX0_addRoad 39 = .ok (.iload_n 3, 1) := by decide +kernel
theorem dX0_addRoad_40 : decode cX0_addRoad 40 = .ok (.iastore, 1) := by decide +kernel
theorem dX0_addRoad_41 : decode cX0_addRoad 41 = .ok (.aload_n 0, 1) := by decide +kernel
theorem dX0_addRoad_42 : decode cX0_addRoad 42 = .ok (.getfield 18, 3) := by decide +kernel
theorem dX0_addRoad_45 : decode cX0_addRoad 45 = .ok (.iload 7, 2) := by decide +kernel
theorem dX0_addRoad_47 : decode cX0_addRoad 47 = .ok (.iconst 3, 1) := by decide +kernel
theorem dX0_addRoad_48 : decode cX0_addRoad 48 = .ok (.iadd, 1) := by decide +kernel
theorem dX0_addRoad_49 : decode cX0_addRoad 49 = .ok (.iload 4, 2) := by decide +kernel
theorem dX0_addRoad_51 : decode cX0_addRoad 51 = .ok (.iastore, 1) := by decide +kernel
theorem dX0_addRoad_52 : decode cX0_addRoad 52 = .ok (.aload_n 0, 1) := by decide +kernel
theorem dX0_addRoad_53 : decode cX0_addRoad 53 = .ok (.getfield 18, 3) := by decide +kernel
theorem dX0_addRoad_56 : decode cX0_addRoad 56 = .ok (.iload 7, 2) := by decide +kernel
theorem dX0_addRoad_58 : decode cX0_addRoad 58 = .ok (.iconst 4, 1) := by decide +kernel
theorem dX0_addRoad_59 : decode cX0_addRoad 59 = .ok (.iadd, 1) := by decide +kernel
theorem dX0_addRoad_60 : decode cX0_addRoad 60 = .ok (.iload 5, 2) := by decide +kernel
theorem dX0_addRoad_62 : decode cX0_addRoad 62 = .ok (.iastore, 1) := by decide +kernel
theorem dX0_addRoad_63 : decode cX0_addRoad 63 = .ok (.aload_n 0, 1) := by decide +kernel
theorem dX0_addRoad_64 : decode cX0_addRoad 64 = .ok (.getfield 18, 3) := by decide +kernel
theorem dX0_addRoad_67 : decode cX0_addRoad 67 = .ok (.iload 7, 2) := by decide +kernel
theorem dX0_addRoad_69 : decode cX0_addRoad 69 = .ok (.iconst 5, 1) := by decide +kernel
theorem dX0_addRoad_70 : decode cX0_addRoad 70 = .ok (.iadd, 1) := by decide +kernel
theorem dX0_addRoad_71 : decode cX0_addRoad 71 = .ok (.iload 6, 2) := by decide +kernel
theorem dX0_addRoad_73 : decode cX0_addRoad 73 = .ok (.iastore, 1) := by decide +kernel
theorem dX0_addRoad_74 : decode cX0_addRoad 74 = .ok (.aload_n 0, 1) := by decide +kernel
theorem dX0_addRoad_75 : decode cX0_addRoad 75 = .ok (.getfield 18, 3) := by decide +kernel
theorem dX0_addRoad_78 : decode cX0_addRoad 78 = .ok (.iload 7, 2) := by decide +kernel
theorem dX0_addRoad_80 : decode cX0_addRoad 80 = .ok (.bipush 6, 2) := by decide +kernel
theorem dX0_addRoad_82 : decode cX0_addRoad 82 = .ok (.iadd, 1) := by decide +kernel
theorem dX0_addRoad_83 : decode cX0_addRoad 83 = .ok (.iconst 0, 1) := by decide +kernel
theorem dX0_addRoad_84 : decode cX0_addRoad 84 = .ok (.iastore, 1) := by decide +kernel
theorem dX0_addRoad_85 : decode cX0_addRoad 85 = .ok (.aload_n 0, 1) := by decide +kernel
theorem dX0_addRoad_86 : decode cX0_addRoad 86 = .ok (.getfield 13, 3) := by decide +kernel
theorem dX0_addRoad_89 : decode cX0_addRoad 89 = .ok (.iconst 0, 1) := by decide +kernel
theorem dX0_addRoad_90 : decode cX0_addRoad 90 = .ok (.dup2, 1) := by decide +kernel
theorem dX0_addRoad_91 : decode cX0_addRoad 91 = .ok (.iaload, 1) := by decide +kernel
theorem dX0_addRoad_92 : decode cX0_addRoad 92 = .ok (.dup_x2, 1) := by decide +kernel
theorem dX0_addRoad_93 : decode cX0_addRoad 93 = .ok (.iconst 1, 1) := by decide +kernel
theorem dX0_addRoad_94 : decode cX0_addRoad 94 = .ok (.iadd, 1) := by decide +kernel
theorem dX0_addRoad_95 : decode cX0_addRoad 95 = .ok (.iastore, 1) := by decide +kernel
theorem dX0_addRoad_96 : decode cX0_addRoad 96 = .ok (.ireturn, 1) := by decide +kernel
theorem dX0_addWaggon_0 : decode cX0_addWaggon 0 = .ok (.aload_n 0, 1) := by decide +kernel
theorem dX0_addWaggon_1 : decode cX0_addWaggon 1 = .ok (.getfield 13, 3) := by decide +kernel
theorem dX0_addWaggon_4 : decode cX0_addWaggon 4 = .ok (.iconst 2, 1) := by decide +kernel
theorem dX0_addWaggon_5 : decode cX0_addWaggon 5 = .ok (.iaload, 1) := by decide +kernel
theorem dX0_addWaggon_6 : decode cX0_addWaggon 6 = .ok (.iconst 3, 1) := by decide +kernel
theorem dX0_addWaggon_7 : decode cX0_addWaggon 7 = .ok (.imul, 1) := by decide +kernel
theorem dX0_addWaggon_8 : decode cX0_addWaggon 8 = .ok (.istore 4, 2) := by decide +kernel
theorem dX0_addWaggon_10 : decode cX0_addWaggon 10 = .ok (.aload_n 0, 1) := by decide +kernel
theorem dX0_addWaggon_11 : decode cX0_addWaggon 11 = .ok (.getfield 24, 3) := by decide +kernel
theorem dX0_addWaggon_14 : decode cX0_addWaggon 14 = .ok (.iload 4, 2) := by decide +kernel
theorem dX0_addWaggon_16 : decode cX0_addWaggon 16 = .ok (.iconst 0, 1) := by decide +kernel
theorem dX0_addWaggon_17 : decode cX0_addWaggon 17 = .ok (.iadd, 1) := by decide +kernel
theorem dX0_addWaggon_18 : decode cX0_addWaggon 18 = .ok (.iload_n 1, 1) := by decide +kernel
theorem dX0_addWaggon_19 : decode cX0_addWaggon 19 = .ok (.iastore, 1) := by decide +kernel
theorem dX0_addWaggon_20 : decode cX0_addWaggon 20 = .ok (.aload_n 0, 1) := by decide +kernel
theorem dX0_addWaggon_21 : decode cX0_addWaggon 21 = .ok (.getfield 24, 3) := by decide +kernel
theorem dX0_addWaggon_24 : decode cX0_addWaggon 24 = .ok (.iload 4, 2) := by decide +kernel
theorem dX0_addWaggon_26 : decode cX0_addWaggon 26 = .ok (.iconst 1, 1) := by decide +kernel
theorem dX0_addWaggon_27 : decode cX0_addWaggon 27 = .ok (.iadd, 1) := by decide +kernel
theorem dX0_addWaggon_28 : decode cX0_addWaggon 28 = .ok (.iload_n 2, 1) := by decide +kernel
theorem dX0_addWaggon_29 : decode cX0_addWaggon 29 = .ok (.iastore, 1) := by decide +kernel
theorem dX0_addWaggon_30 : decode cX0_addWaggon 30 = .ok (.aload_n 0, 1) := by decide +kernel
theorem dX0_addWaggon_31 : decode cX0_addWaggon 31 = .ok (.getfield 24, 3) := by decide +kernel
theorem dX0_addWaggon_34 : decode cX0_addWaggon 34 = .ok (.iload 4, 2) := by decide +kernel
theorem dX0_addWaggon_36 : decode cX0_addWaggon 36 = .ok (.iconst 2, 1) := by decide +kernel
theorem dX0_addWaggon_37 : decode cX0_addWaggon 37 = .ok (.iadd, 1) := by decide +kernel
theorem dX0_addWaggon_38 : decode cX0_addWaggon 38 = .ok (.iload_n 3, 1) := by decide +kernel
theorem dX0_addWaggon_39 : decode cX0_addWaggon 39 = .ok (.iastore, 1) := by decide +kernel
theorem dX0_addWaggon_40 : decode cX0_addWaggon 40 = .ok (.aload_n 0, 1) := by decide +kernel
theorem dX0_addWaggon_41 : decode cX0_addWaggon 41 = .ok (.getfield 13, 3) := by decide +kernel
theorem dX0_addWaggon_44 : decode cX0_addWaggon 44 = .ok (.iconst 2, 1) := by decide +kernel
theorem dX0_addWaggon_45 : decode cX0_addWaggon 45 = .ok (.dup2, 1) := by decide +kernel
theorem dX0_addWaggon_46 : decode cX0_addWaggon 46 = .ok (.iaload, 1) := by decide +kernel
theorem dX0_addWaggon_47 : decode cX0_addWaggon 47 = .ok (.dup_x2, 1) := by decide +kernel
theorem dX0_addWaggon_48 : decode cX0_addWaggon 48 = .ok (.iconst 1, 1) := by decide +kernel
theorem dX0_addWaggon_49 : decode cX0_addWaggon 49 = .ok (.iadd, 1) := by decide +kernel
theorem dX0_addWaggon_50 : decode cX0_addWaggon 50 = .ok (.iastore, 1) := by decide +kernel
theorem dX0_addWaggon_51 : decode cX0_addWaggon 51 = .ok (.ireturn, 1) := by decide +kernel
theorem dX0_become_0 : decode cX0_become 0 = .ok (.aload_n 1, 1) := by decide +kernel
theorem dX0_become_1 : decode cX0_become 1 = .ok (.getfield 13, 3) := by decide +kernel
theorem dX0_become_4 : decode cX0_become 4 = .ok (.iconst 0, 1) := by decide +kernel
theorem dX0_become_5 : decode cX0_become 5 = .ok (.aload_n 0, 1) := by decide +kernel
theorem dX0_become_6 : decode cX0_become 6 = .ok (.getfield 13, 3) := by decide +kernel
theorem dX0_become_9 : decode cX0_become 9 = .ok (.iconst 0, 1) := by decide +kernel
theorem dX0_become_10 : decode cX0_become 10 = .ok (.aload_n 0, 1) := by decide +kernel
theorem dX0_become_11 : decode cX0_become 11 = .ok (.getfield 13, 3) := by decide +kernel
theorem dX0_become_14 : decode cX0_become 14 = .ok (.arraylength, 1) := by decide +kernel
theorem dX0_become_15 : decode cX0_become 15 = .ok (.invokestatic 40, 3) := by decide +kernel
theorem dX0_become_18 : decode cX0_become 18 = .ok (.aload_n 1, 1) := by decide +kernel
theorem dX0_become_19 : decode cX0_become 19 = .ok (.getfield 18, 3) := by decide +kernel
theorem dX0_become_22 : decode cX0_become 22 = .ok (.iconst 0, 1) := by decide +kernel
theorem dX0_become_23 : decode cX0_become 23 = .ok (.aload_n 0, 1) := by decide +kernel
theorem dX0_become_24 : decode cX0_become 24 = .ok (.getfield 18, 3) := by decide +kernel
theorem dX0_become_27 : decode cX0_become 27 = .ok (.iconst 0, 1) := by decide +kernel
theorem dX0_become_28 : decode cX0_become 28 = .ok (.aload_n 0, 1) := by decide +kernel
theorem dX0_become_29 : decode cX0_become 29 = .ok (.getfield 18, 3) := by decide +kernel
theorem dX0_become_32 : decode cX0_become 32 = .ok (.arraylength, 1) := by decide +kernel
theorem dX0_become_33 : decode cX0_become 33 = .ok (.invokestatic 40, 3) := by decide +kernel
theorem dX0_become_36 : decode cX0_become 36 = .ok (.aload_n 1, 1) := by decide +kernel
theorem dX0_become_37 : decode cX0_become 37 = .ok (.getfield 21, 3) := by decide +kernel
theorem dX0_become_40 : decode cX0_become 40 = .ok (.iconst 0, 1) := by decide +kernel
theorem dX0_become_41 : decode cX0_become 41 = .ok (.aload_n 0, 1) := by decide +kernel
theorem dX0_become_42 : decode cX0_become 42 = .ok (.getfield 21, 3) := by decide +kernel
theorem dX0_become_45 : decode cX0_become 45 = .ok (.iconst 0, 1) := by decide +kernel
theorem dX0_become_46 : decode cX0_become 46 = .ok (.aload_n 0, 1) := by decide +kernel
theorem dX0_become_47 : decode cX0_become 47 = .ok (.getfield 21, 3) := by decide +kernel
theorem dX0_become_50 : decode cX0_become 50 = .ok (.arraylength, 1) := by decide +kernel
theorem dX0_become_51 : decode cX0_become 51 = .ok (.invokestatic 40, 3) := by decide +kernel
theorem dX0_become_54 : decode cX0_become 54 = .ok (.aload_n 1, 1) := by decide +kernel
theorem dX0_become_55 : decode cX0_become 55 = .ok (.getfield 24, 3) := by decide +kernel
theorem dX0_become_58 : decode cX0_become 58 = .ok (.iconst 0, 1) := by decide +kernel
theorem dX0_become_59 : decode cX0_become 59 = .ok (.aload_n 0, 1) := by decide +kernel
theorem dX0_become_60 : decode cX0_become 60 = .ok (.getfield 24, 3) := by decide +kernel
theorem dX0_become_63 : decode cX0_become 63 = .ok (.iconst 0, 1) := by decide +kernel
theorem dX0_become_64 : decode cX0_become 64 = .ok (.aload_n 0, 1) := by decide +kernel
theorem dX0_become_65 : decode cX0_become 65 = .ok (.getfield 24, 3) := by decide +kernel
theorem dX0_become_68 : decode cX0_become 68 = .ok (.arraylength, 1) := by decide +kernel
theorem dX0_become_69 : decode cX0_become 69 = .ok (.invokestatic 40, 3) := by decide +kernel
theorem dX0_become_72 : decode cX0_become 72 = .ok (.aload_n 1, 1) := by decide +kernel
theorem dX0_become_73 : decode cX0_become 73 = .ok (.getfield 27, 3) := by decide +kernel
theorem dX0_become_76 : decode cX0_become 76 = .ok (.iconst 0, 1) := by decide +kernel
theorem dX0_become_77 : decode cX0_become 77 = .ok (.aload_n 0, 1) := by decide +kernel
theorem dX0_become_78 : decode cX0_become 78 = .ok (.getfield 27, 3) := by decide +kernel
theorem dX0_become_81 : decode cX0_become 81 = .ok (.iconst 0, 1) := by decide +kernel
theorem dX0_become_82 : decode cX0_become 82 = .ok (.aload_n 0, 1) := by decide +kernel
theorem dX0_become_83 : decode cX0_become 83 = .ok (.getfield 27, 3) := by decide +kernel
theorem dX0_become_86 : decode cX0_become 86 = .ok (.arraylength, 1) := by decide +kernel
theorem dX0_become_87 : decode cX0_become 87 = .ok (.invokestatic 40, 3) := by decide +kernel
theorem dX0_become_90 : decode cX0_become 90 = .ok (.aload_n 1, 1) := by decide +kernel
theorem dX0_become_91 : decode cX0_become 91 = .ok (.getfield 30, 3) := by decide +kernel
theorem dX0_become_94 : decode cX0_become 94 = .ok (.iconst 0, 1) := by decide +kernel
theorem dX0_become_95 : decode cX0_become 95 = .ok (.aload_n 0, 1) := by decide +kernel
theorem dX0_become_96 : decode cX0_become 96 = .ok (.getfield 30, 3) := by decide +kernel
theorem dX0_become_99 : decode cX0_become 99 = .ok (.iconst 0, 1) := by decide +kernel
theorem dX0_become_100 : decode cX0_become 100 = .ok (.aload_n 0, 1) := by decide +kernel
theorem dX0_become_101 : decode cX0_become 101 = .ok (.getfield 30, 3) := by decide +kernel
theorem dX0_become_104 : decode cX0_become 104 = .ok (.arraylength, 1) := by decide +kernel
theorem dX0_become_105 : decode cX0_become 105 = .ok (.invokestatic 40, 3) := by decide +kernel
theorem dX0_become_108 : decode cX0_become 108 = .ok (.aload_n 1, 1) := by decide +kernel
theorem dX0_become_109 : decode cX0_become 109 = .ok (.getfield 33, 3) := by decide +kernel
theorem dX0_become_112 : decode cX0_become 112 = .ok (.iconst 0, 1) := by decide +kernel
theorem dX0_become_113 : decode cX0_become 113 = .ok (.aload_n 0, 1) := by decide +kernel
theorem dX0_become_114 : decode cX0_become 114 = .ok (.getfield 33, 3) := by decide +kernel
theorem dX0_become_117 : decode cX0_become 117 = .ok (.iconst 0, 1) := by decide +kernel
theorem dX0_become_118 : decode cX0_become 118 = .ok (.aload_n 0, 1) := by decide +kernel
theorem dX0_become_119 : decode cX0_become 119 = .ok (.getfield 33, 3) := by decide +kernel
theorem dX0_become_122 : decode cX0_become 122 = .ok (.arraylength, 1) := by decide +kernel
theorem dX0_become_123 : decode cX0_become 123 = .ok (.invokestatic 40, 3) := by decide +kernel
theorem dX0_become_126 : decode cX0_become 126 = .ok (.aload_n 0, 1) := by decide +kernel
theorem dX0_become_127 : decode cX0_become 127 = .ok (.aload_n 1, 1) := by decide +kernel
theorem dX0_become_128 : decode cX0_become 128 = .ok (.getfield 36, 3) := by decide +kernel
theorem dX0_become_131 : decode cX0_become 131 = .ok (.putfield 36, 3) := by decide +kernel
theorem dX0_become_134 : decode cX0_become 134 = .ok (.return_, 1) := by decide +kernel
theorem dX0_countBridges_0 : decode cX0_countBridges 0 = .ok (.iconst 0, 1) := by decide +kernel
theorem dX0_countBridges_1 : decode cX0_countBridges 1 = .ok (.istore_n 2, 1) := by decide +kernel
theorem dX0_countBridges_2 : decode cX0_countBridges 2 = .ok (.iconst 0, 1) := by decide +kernel
theorem dX0_countBridges_3 : decode cX0_countBridges 3 = .ok (.istore_n 3, 1) := by decide +kernel
theorem dX0_countBridges_4 : decode cX0_countBridges 4 = .ok (.iload_n 3, 1) := by decide +kernel
theorem dX0_countBridges_5 : decode cX0_countBridges 5 = .ok (.aload_n 0, 1) := by decide +kernel
theorem dX0_countBridges_6 : decode cX0_countBridges 6 = .ok (.getfield 13, 3) := by decide +kernel
theorem dX0_countBridges_9 : decode cX0_countBridges 9 = .ok (.iconst 1, 1) := by decide +kernel
theorem dX0_countBridges_10 : decode cX0_countBridges 10 = .ok (.iaload, 1) := by decide +kernel
theorem dX0_countBridges_11 : decode cX0_countBridges 11 = .ok (.if_icmp .ge 18, 3) := by decide +kernel
theorem dX0_countBridges_29 : decode cX0_countBridges 29 = .ok (.iload_n 2, 1) := by decide +kernel
theorem dX0_countBridges_30 : decode cX0_countBridges 30 = .ok (.ireturn, 1) := by decide +kernel
theorem dX0_hasRoom_0 : decode cX0_hasRoom 0 = .ok (.aload_n 0, 1) := by decide +kernel
theorem dX0_hasRoom_1 : decode cX0_hasRoom 1 = .ok (.getfield 13, 3) := by decide +kernel
theorem dX0_hasRoom_4 : decode cX0_hasRoom 4 = .ok (.iload_n 1, 1) := by decide +kernel
theorem dX0_hasRoom_5 : decode cX0_hasRoom 5 = .ok (.iaload, 1) := by decide +kernel
theorem dX0_hasRoom_6 : decode cX0_hasRoom 6 = .ok (.getstatic 9, 3) := by decide +kernel
theorem dX0_hasRoom_9 : decode cX0_hasRoom 9 = .ok (.iload_n 1, 1) := by decide +kernel
theorem dX0_hasRoom_10 : decode cX0_hasRoom 10 = .ok (.iaload, 1) := by decide +kernel
theorem dX0_hasRoom_11 : decode cX0_hasRoom 11 = .ok (.if_icmp .ge 7, 3) := by decide +kernel
theorem dX0_hasRoom_14 : decode cX0_hasRoom 14 = .ok (.iconst 1, 1) := by decide +kernel
theorem dX0_hasRoom_15 : decode cX0_hasRoom 15 = .ok (.goto 4, 3) := by decide +kernel
theorem dX0_hasRoom_19 : decode cX0_hasRoom 19 = .ok (.ireturn, 1) := by decide +kernel
theorem dX0_setsOfParts_0 : decode cX0_setsOfParts 0 = .ok (.iconst 1, 1) := by decide +kernel
theorem dX0_setsOfParts_1 : decode cX0_setsOfParts 1 = .ok (.aload_n 0, 1) := by decide +kernel
theorem dX0_setsOfParts_2 : decode cX0_setsOfParts 2 = .ok (.getfield 13, 3) := by decide +kernel
theorem dX0_setsOfParts_5 : decode cX0_setsOfParts 5 = .ok (.iconst 3, 1) := by decide +kernel
theorem dX0_setsOfParts_6 : decode cX0_setsOfParts 6 = .ok (.iaload, 1) := by decide +kernel
theorem dX0_setsOfParts_7 : decode cX0_setsOfParts 7 = .ok (.ishl, 1) := by decide +kernel
theorem dX0_setsOfParts_8 : decode cX0_setsOfParts 8 = .ok (.ireturn, 1) := by decide +kernel
theorem dX2_read_0 : decode cX2_read 0 = .ok (.aload_n 0, 1) := by decide +kernel
theorem dX2_read_1 : decode cX2_read 1 = .ok (.getfield 15, 3) := by decide +kernel
theorem dX2_read_4 : decode cX2_read 4 = .ok (.getfield 29, 3) := by decide +kernel
theorem dX2_read_7 : decode cX2_read 7 = .ok (.iconst 0, 1) := by decide +kernel
theorem dX2_read_8 : decode cX2_read 8 = .ok (.aload_n 0, 1) := by decide +kernel
theorem dX2_read_9 : decode cX2_read 9 = .ok (.getfield 23, 3) := by decide +kernel
theorem dX2_read_12 : decode cX2_read 12 = .ok (.iconst 0, 1) := by decide +kernel
theorem dX2_read_13 : decode cX2_read 13 = .ok (.aload_n 0, 1) := by decide +kernel
theorem dX2_read_14 : decode cX2_read 14 = .ok (.getfield 23, 3) := by decide +kernel
theorem dX2_read_17 : decode cX2_read 17 = .ok (.arraylength, 1) := by decide +kernel
theorem dX2_read_18 : decode cX2_read 18 = .ok (.invokestatic 34, 3) := by decide +kernel
theorem dX2_read_21 : decode cX2_read 21 = .ok (.aload_n 0, 1) := by decide +kernel
theorem dX2_read_22 : decode cX2_read 22 = .ok (.getfield 15, 3) := by decide +kernel
theorem dX2_read_25 : decode cX2_read 25 = .ok (.getfield 40, 3) := by decide +kernel
theorem dX2_read_28 : decode cX2_read 28 = .ok (.iconst 0, 1) := by decide +kernel
theorem dX2_read_29 : decode cX2_read 29 = .ok (.aload_n 0, 1) := by decide +kernel
theorem dX2_read_30 : decode cX2_read 30 = .ok (.getfield 26, 3) := by decide +kernel
theorem dX2_read_33 : decode cX2_read 33 = .ok (.iconst 0, 1) := by decide +kernel
theorem dX2_read_34 : decode cX2_read 34 = .ok (.aload_n 0, 1) := by decide +kernel
theorem dX2_read_35 : decode cX2_read 35 = .ok (.getfield 26, 3) := by decide +kernel
theorem dX2_read_38 : decode cX2_read 38 = .ok (.arraylength, 1) := by decide +kernel
theorem dX2_read_39 : decode cX2_read 39 = .ok (.invokestatic 34, 3) := by decide +kernel
theorem dX2_read_42 : decode cX2_read 42 = .ok (.aload_n 0, 1) := by decide +kernel
theorem dX2_read_43 : decode cX2_read 43 = .ok (.getfield 9, 3) := by decide +kernel
theorem dX2_read_46 : decode cX2_read 46 = .ok (.invokevirtual 43, 3) := by decide +kernel
theorem dX2_read_49 : decode cX2_read 49 = .ok (.aload_n 0, 1) := by decide +kernel
theorem dX2_read_50 : decode cX2_read 50 = .ok (.invokevirtual 48, 3) := by decide +kernel
theorem dX2_read_53 : decode cX2_read 53 = .ok (.iconst 1, 1) := by decide +kernel
theorem dX2_read_54 : decode cX2_read 54 = .ok (.istore_n 1, 1) := by decide +kernel
theorem dX2_read_55 : decode cX2_read 55 = .ok (.aload_n 0, 1) := by decide +kernel
theorem dX2_read_56 : decode cX2_read 56 = .ok (.getfield 9, 3) := by decide +kernel
theorem dX2_read_59 : decode cX2_read 59 = .ok (.invokevirtual 51, 3) := by decide +kernel
theorem dX2_read_62 : decode cX2_read 62 = .ok (.ifCond .eq 37, 3) := by decide +kernel
theorem dX2_read_99 : decode cX2_read 99 = .ok (.aload_n 0, 1) := by decide +kernel
theorem dX2_read_100 : decode cX2_read 100 = .ok (.getfield 9, 3) := by decide +kernel
theorem dX2_read_103 : decode cX2_read 103 = .ok (.invokevirtual 51, 3) := by decide +kernel
theorem dX2_read_106 : decode cX2_read 106 = .ok (.ifCond .ne 45, 3) := by decide +kernel
theorem dX2_read_109 : decode cX2_read 109 = .ok (.aload_n 0, 1) := by decide +kernel
theorem dX2_read_110 : decode cX2_read 110 = .ok (.getfield 23, 3) := by decide +kernel
theorem dX2_read_113 : decode cX2_read 113 = .ok (.iconst 0, 1) := by decide +kernel
theorem dX2_read_114 : decode cX2_read 114 = .ok (.aload_n 0, 1) := by decide +kernel
theorem dX2_read_115 : decode cX2_read 115 = .ok (.getfield 15, 3) := by decide +kernel
theorem dX2_read_118 : decode cX2_read 118 = .ok (.getfield 29, 3) := by decide +kernel
theorem dX2_read_121 : decode cX2_read 121 = .ok (.iconst 0, 1) := by decide +kernel
theorem dX2_read_122 : decode cX2_read 122 = .ok (.aload_n 0, 1) := by decide +kernel
theorem dX2_read_123 : decode cX2_read 123 = .ok (.getfield 23, 3) := by decide +kernel
theorem dX2_read_126 : decode cX2_read 126 = .ok (.arraylength, 1) := by decide +kernel
theorem dX2_read_127 : decode cX2_read 127 = .ok (.invokestatic 34, 3) := by decide +kernel
theorem dX2_read_130 : decode cX2_read 130 = .ok (.aload_n 0, 1) := by decide +kernel
theorem dX2_read_131 : decode cX2_read 131 = .ok (.getfield 26, 3) := by decide +kernel
theorem dX2_read_134 : decode cX2_read 134 = .ok (.iconst 0, 1) := by decide +kernel
theorem dX2_read_135 : decode cX2_read 135 = .ok (.aload_n 0, 1) := by decide +kernel
theorem dX2_read_136 : decode cX2_read 136 = .ok (.getfield 15, 3) := by decide +kernel
theorem dX2_read_139 : decode cX2_read 139 = .ok (.getfield 40, 3) := by decide +kernel
theorem dX2_read_142 : decode cX2_read 142 = .ok (.iconst 0, 1) := by decide +kernel
theorem dX2_read_143 : decode cX2_read 143 = .ok (.aload_n 0, 1) := by decide +kernel
theorem dX2_read_144 : decode cX2_read 144 = .ok (.getfield 26, 3) := by decide +kernel
theorem dX2_read_147 : decode cX2_read 147 = .ok (.arraylength, 1) := by decide +kernel
theorem dX2_read_148 : decode cX2_read 148 = .ok (.invokestatic 34, 3) := by decide +kernel
theorem dX2_read_151 : decode cX2_read 151 = .ok (.iload_n 1, 1) := by decide +kernel
theorem dX2_read_152 : decode cX2_read 152 = .ok (.ireturn, 1) := by decide +kernel
theorem dX2_readStatement_0 : decode cX2_readStatement 0 = .ok (.aload_n 0, 1) := by decide +kernel
theorem dX2_readStatement_1 : decode cX2_readStatement 1 = .ok (.getfield 9, 3) := by decide +kernel
theorem dX2_readStatement_4 : decode cX2_readStatement 4 = .ok (.ldc 61, 2) := by decide +kernel
theorem dX2_readStatement_6 : decode cX2_readStatement 6 = .ok (.invokevirtual 63, 3) := by decide +kernel
theorem dX2_readStatement_9 : decode cX2_readStatement 9 = .ok (.ifCond .eq 10, 3) := by decide +kernel
theorem dX2_readStatement_19 : decode cX2_readStatement 19 = .ok (.aload_n 0, 1) := by decide +kernel
theorem dX2_readStatement_20 : decode cX2_readStatement 20 = .ok (.getfield 9, 3) := by decide +kernel
theorem dX2_readStatement_23 : decode cX2_readStatement 23 = .ok (.ldc 70, 2) := by decide +kernel
theorem dX2_readStatement_25 : decode cX2_readStatement 25 = .ok (.invokevirtual 63, 3) := by decide +kernel
theorem dX2_readStatement_28 : decode cX2_readStatement 28 = .ok (.ifCond .eq 10, 3) := by decide +kernel
theorem dX2_readStatement_38 : decode cX2_readStatement 38 = .ok (.aload_n 0, 1) := by decide +kernel
theorem dX2_readStatement_39 : decode cX2_readStatement 39 = .ok (.getfield 9, 3) := by decide +kernel
theorem dX2_readStatement_42 : decode cX2_readStatement 42 = .ok (.ldc 75, 2) := by decide +kernel
theorem dX2_readStatement_44 : decode cX2_readStatement 44 = .ok (.invokevirtual 63, 3) := by decide +kernel
theorem dX2_readStatement_47 : decode cX2_readStatement 47 = .ok (.ifCond .eq 10, 3) := by decide +kernel
theorem dX2_readStatement_57 : decode cX2_readStatement 57 = .ok (.aload_n 0, 1) := by decide +kernel
theorem dX2_readStatement_58 : decode cX2_readStatement 58 = .ok (.getfield 9, 3) := by decide +kernel
theorem dX2_readStatement_61 : decode cX2_readStatement 61 = .ok (.ldc 80, 2) := by decide +kernel
theorem dX2_readStatement_63 : decode cX2_readStatement 63 = .ok (.invokevirtual 63, 3) := by decide +kernel
theorem dX2_readStatement_66 : decode cX2_readStatement 66 = .ok (.ifCond .eq 10, 3) := by decide +kernel
theorem dX2_readStatement_76 : decode cX2_readStatement 76 = .ok (.aload_n 0, 1) := by decide +kernel
theorem dX2_readStatement_77 : decode cX2_readStatement 77 = .ok (.getfield 9, 3) := by decide +kernel
theorem dX2_readStatement_80 : decode cX2_readStatement 80 = .ok (.ldc 85, 2) := by decide +kernel
theorem dX2_readStatement_82 : decode cX2_readStatement 82 = .ok (.invokevirtual 87, 3) := by decide +kernel
theorem dX2_readStatement_85 : decode cX2_readStatement 85 = .ok (.ifCond .eq 11, 3) := by decide +kernel
theorem dX2_readStatement_96 : decode cX2_readStatement 96 = .ok (.aload_n 0, 1) := by decide +kernel
theorem dX2_readStatement_97 : decode cX2_readStatement 97 = .ok (.getfield 9, 3) := by decide +kernel
theorem dX2_readStatement_100 : decode cX2_readStatement 100 = .ok (.ldc 94, 2) := by decide +kernel
theorem dX2_readStatement_102 : decode cX2_readStatement 102 = .ok (.invokevirtual 87, 3) := by decide +kernel
theorem dX2_readStatement_105 : decode cX2_readStatement 105 = .ok (.ifCond .eq 11, 3) := by decide +kernel
theorem dX2_readStatement_116 : decode cX2_readStatement 116 = .ok (.aload_n 0, 1) := by decide +kernel
theorem dX2_readStatement_117 : decode cX2_readStatement 117 = .ok (.getfield 9, 3) := by decide +kernel
theorem dX2_readStatement_120 : decode cX2_readStatement 120 = .ok (.invokevirtual 96, 3) := by decide +kernel
theorem dX2_readStatement_123 : decode cX2_readStatement 123 = .ok (.return_, 1) := by decide +kernel
theorem dX3_countHeld_0 : decode cX3_countHeld 0 = .ok (.iconst 0, 1) := by decide +kernel
theorem dX3_countHeld_1 : decode cX3_countHeld 1 = .ok (.istore_n 1, 1) := by decide +kernel
theorem dX3_countHeld_2 : decode cX3_countHeld 2 = .ok (.iconst 0, 1) := by decide +kernel
theorem dX3_countHeld_3 : decode cX3_countHeld 3 = .ok (.istore_n 2, 1) := by decide +kernel
theorem dX3_countHeld_4 : decode cX3_countHeld 4 = .ok (.iload_n 2, 1) := by decide +kernel
theorem dX3_countHeld_5 : decode cX3_countHeld 5 = .ok (.bipush 8, 2) := by decide +kernel
theorem dX3_countHeld_7 : decode cX3_countHeld 7 = .ok (.if_icmp .ge 20, 3) := by decide +kernel
theorem dX3_countHeld_10 : decode cX3_countHeld 10 = .ok (.aload_n 0, 1) := by decide +kernel
theorem dX3_countHeld_11 : decode cX3_countHeld 11 = .ok (.iload_n 2, 1) := by decide +kernel
theorem dX3_countHeld_12 : decode cX3_countHeld 12 = .ok (.invokevirtual 22, 3) := by decide +kernel
theorem dX3_countHeld_15 : decode cX3_countHeld 15 = .ok (.ifCond .ne 6, 3) := by decide +kernel
theorem dX3_countHeld_21 : decode cX3_countHeld 21 = .ok (.iinc 2 1, 3) := by decide +kernel
theorem dX3_countHeld_24 : decode cX3_countHeld 24 = .ok (.goto (-20), 3) := by decide +kernel
theorem dX3_countHeld_27 : decode cX3_countHeld 27 = .ok (.iload_n 1, 1) := by decide +kernel
theorem dX3_countHeld_28 : decode cX3_countHeld 28 = .ok (.ireturn, 1) := by decide +kernel
theorem dX3_holdsBridge_0 : decode cX3_holdsBridge 0 = .ok (.aload_n 0, 1) := by decide +kernel
theorem dX3_holdsBridge_1 : decode cX3_holdsBridge 1 = .ok (.getfield 9, 3) := by decide +kernel
theorem dX3_holdsBridge_4 : decode cX3_holdsBridge 4 = .ok (.iload_n 1, 1) := by decide +kernel
theorem dX3_holdsBridge_5 : decode cX3_holdsBridge 5 = .ok (.iaload, 1) := by decide +kernel
theorem dX3_holdsBridge_6 : decode cX3_holdsBridge 6 = .ok (.bipush 10, 2) := by decide +kernel
theorem dX3_holdsBridge_8 : decode cX3_holdsBridge 8 = .ok (.if_icmp .lt 7, 3) := by decide +kernel
theorem dX3_holdsBridge_15 : decode cX3_holdsBridge 15 = .ok (.iconst 0, 1) := by decide +kernel
theorem dX3_holdsBridge_16 : decode cX3_holdsBridge 16 = .ok (.ireturn, 1) := by decide +kernel
theorem dX3_holdsNothing_0 : decode cX3_holdsNothing 0 = .ok (.aload_n 0, 1) := by decide +kernel
theorem dX3_holdsNothing_1 : decode cX3_holdsNothing 1 = .ok (.getfield 9, 3) := by decide +kernel
theorem dX3_holdsNothing_4 : decode cX3_holdsNothing 4 = .ok (.iload_n 1, 1) := by decide +kernel
theorem dX3_holdsNothing_5 : decode cX3_holdsNothing 5 = .ok (.iaload, 1) := by decide +kernel
theorem dX3_holdsNothing_6 : decode cX3_holdsNothing 6 = .ok (.iconst (-1), 1) := by decide +kernel
theorem dX3_holdsNothing_7 : decode cX3_holdsNothing 7 = .ok (.if_icmp .ne 7, 3) := by decide +kernel
theorem dX3_holdsNothing_10 : decode cX3_holdsNothing 10 = .ok (.iconst 1, 1) := by decide +kernel
theorem dX3_holdsNothing_11 : decode cX3_holdsNothing 11 = .ok (.goto 4, 3) := by decide +kernel
theorem dX3_holdsNothing_15 : decode cX3_holdsNothing 15 = .ok (.ireturn, 1) := by decide +kernel
theorem dX3_holdsRow_0 : decode cX3_holdsRow 0 = .ok (.aload_n 0, 1) := by decide +kernel
theorem dX3_holdsRow_1 : decode cX3_holdsRow 1 = .ok (.iload_n 1, 1) := by decide +kernel
theorem dX3_holdsRow_2 : decode cX3_holdsRow 2 = .ok (.invokevirtual 22, 3) := by decide +kernel
theorem dX3_holdsRow_5 : decode cX3_holdsRow 5 = .ok (.ifCond .ne 15, 3) := by decide +kernel
theorem dX3_holdsRow_20 : decode cX3_holdsRow 20 = .ok (.iconst 0, 1) := by decide +kernel
theorem dX3_holdsRow_21 : decode cX3_holdsRow 21 = .ok (.ireturn, 1) := by decide +kernel
theorem dX3_holdsUnlikeRows_0 : decode cX3_holdsUnlikeRows 0 = .ok (.aload_n 0, 1) := by decide +kernel
theorem dX3_holdsUnlikeRows_1 : decode cX3_holdsUnlikeRows 1 = .ok (.iload_n 1, 1) := by decide +kernel
theorem dX3_holdsUnlikeRows_2 : decode cX3_holdsUnlikeRows 2 = .ok (.invokevirtual 29, 3) := by decide +kernel
theorem dX3_holdsUnlikeRows_5 : decode cX3_holdsUnlikeRows 5 = .ok (.ifCond .eq 30, 3) := by decide +kernel
theorem dX3_holdsUnlikeRows_35 : decode cX3_holdsUnlikeRows 35 = .ok (.iconst 0, 1) := by decide +kernel
theorem dX3_holdsUnlikeRows_36 : decode cX3_holdsUnlikeRows 36 = .ok (.ireturn, 1) := by decide +kernel
theorem dX3_putBridge_0 : decode cX3_putBridge 0 = .ok (.aload_n 0, 1) := by decide +kernel
theorem dX3_putBridge_1 : decode cX3_putBridge 1 = .ok (.getfield 9, 3) := by decide +kernel
theorem dX3_putBridge_4 : decode cX3_putBridge 4 = .ok (.iload_n 1, 1) := by decide +kernel
theorem dX3_putBridge_5 : decode cX3_putBridge 5 = .ok (.iload_n 2, 1) := by decide +kernel
theorem dX3_putBridge_6 : decode cX3_putBridge 6 = .ok (.iconst (-1), 1) := by decide +kernel
theorem dX3_putBridge_7 : decode cX3_putBridge 7 = .ok (.if_icmp .ne 7, 3) := by decide +kernel
theorem dX3_putBridge_10 : decode cX3_putBridge 10 = .ok (.iconst (-1), 1) := by decide +kernel
theorem dX3_putBridge_11 : decode cX3_putBridge 11 = .ok (.goto 7, 3) := by decide +kernel
theorem dX3_putBridge_14 : decode cX3_putBridge 14 = .ok (.bipush 10, 2) := by decide +kernel
theorem dX3_putBridge_16 : decode cX3_putBridge 16 = .ok (.iload_n 2, 1) := by decide +kernel
theorem dX3_putBridge_17 : decode cX3_putBridge 17 = .ok (.iadd, 1) := by decide +kernel
theorem dX3_putBridge_18 : decode cX3_putBridge 18 = .ok (.iastore, 1) := by decide +kernel
theorem dX3_putBridge_19 : decode cX3_putBridge 19 = .ok (.aload_n 0, 1) := by decide +kernel
theorem dX3_putBridge_20 : decode cX3_putBridge 20 = .ok (.getfield 15, 3) := by decide +kernel
theorem dX3_putBridge_23 : decode cX3_putBridge 23 = .ok (.iload_n 1, 1) := by decide +kernel
theorem dX3_putBridge_24 : decode cX3_putBridge 24 = .ok (.iconst 0, 1) := by decide +kernel
theorem dX3_putBridge_25 : decode cX3_putBridge 25 = .ok (.iastore, 1) := by decide +kernel
theorem dX3_putBridge_26 : decode cX3_putBridge 26 = .ok (.return_, 1) := by decide +kernel
theorem dX4_advance_0 : decode cX4_advance 0 = .ok (.aload_n 0, 1) := by decide +kernel
theorem dX4_advance_1 : decode cX4_advance 1 = .ok (.aload_n 0, 1) := by decide +kernel
theorem dX4_advance_2 : decode cX4_advance 2 = .ok (.getfield 22, 3) := by decide +kernel
theorem dX4_advance_5 : decode cX4_advance 5 = .ok (.putfield 28, 3) := by decide +kernel
theorem dX4_advance_8 : decode cX4_advance 8 = .ok (.aload_n 0, 1) := by decide +kernel
theorem dX4_advance_9 : decode cX4_advance 9 = .ok (.getfield 28, 3) := by decide +kernel
theorem dX4_advance_12 : decode cX4_advance 12 = .ok (.aload_n 0, 1) := by decide +kernel
theorem dX4_advance_13 : decode cX4_advance 13 = .ok (.getfield 15, 3) := by decide +kernel
theorem dX4_advance_16 : decode cX4_advance 16 = .ok (.if_icmp .ge 30, 3) := by decide +kernel
theorem dX4_advance_46 : decode cX4_advance 46 = .ok (.aload_n 0, 1) := by decide +kernel
theorem dX4_advance_47 : decode cX4_advance 47 = .ok (.aload_n 0, 1) := by decide +kernel
theorem dX4_advance_48 : decode cX4_advance 48 = .ok (.getfield 28, 3) := by decide +kernel
theorem dX4_advance_51 : decode cX4_advance 51 = .ok (.putfield 22, 3) := by decide +kernel
theorem dX4_advance_54 : decode cX4_advance 54 = .ok (.aload_n 0, 1) := by decide +kernel
theorem dX4_advance_55 : decode cX4_advance 55 = .ok (.getfield 22, 3) := by decide +kernel
theorem dX4_advance_58 : decode cX4_advance 58 = .ok (.aload_n 0, 1) := by decide +kernel
theorem dX4_advance_59 : decode cX4_advance 59 = .ok (.getfield 15, 3) := by decide +kernel
theorem dX4_advance_62 : decode cX4_advance 62 = .ok (.if_icmp .ge 44, 3) := by decide +kernel
theorem dX4_advance_106 : decode cX4_advance 106 = .ok (.aload_n 0, 1) := by decide +kernel
theorem dX4_advance_107 : decode cX4_advance 107 = .ok (.getfield 22, 3) := by decide +kernel
theorem dX4_advance_110 : decode cX4_advance 110 = .ok (.aload_n 0, 1) := by decide +kernel
theorem dX4_advance_111 : decode cX4_advance 111 = .ok (.getfield 28, 3) := by decide +kernel
theorem dX4_advance_114 : decode cX4_advance 114 = .ok (.if_icmp .le 9, 3) := by decide +kernel
theorem dX4_advance_123 : decode cX4_advance 123 = .ok (.aload_n 0, 1) := by decide +kernel
theorem dX4_advance_124 : decode cX4_advance 124 = .ok (.getfield 22, 3) := by decide +kernel
theorem dX4_advance_127 : decode cX4_advance 127 = .ok (.aload_n 0, 1) := by decide +kernel
theorem dX4_advance_128 : decode cX4_advance 128 = .ok (.getfield 15, 3) := by decide +kernel
theorem dX4_advance_131 : decode cX4_advance 131 = .ok (.if_icmp .ge 44, 3) := by decide +kernel
theorem dX4_advance_175 : decode cX4_advance 175 = .ok (.aload_n 0, 1) := by decide +kernel
theorem dX4_advance_176 : decode cX4_advance 176 = .ok (.getfield 22, 3) := by decide +kernel
theorem dX4_advance_179 : decode cX4_advance 179 = .ok (.aload_n 0, 1) := by decide +kernel
theorem dX4_advance_180 : decode cX4_advance 180 = .ok (.getfield 28, 3) := by decide +kernel
theorem dX4_advance_183 : decode cX4_advance 183 = .ok (.if_icmp .le 9, 3) := by decide +kernel
theorem dX4_advance_192 : decode cX4_advance 192 = .ok (.aload_n 0, 1) := by decide +kernel
theorem dX4_advance_193 : decode cX4_advance 193 = .ok (.getfield 28, 3) := by decide +kernel
theorem dX4_advance_196 : decode cX4_advance 196 = .ok (.aload_n 0, 1) := by decide +kernel
theorem dX4_advance_197 : decode cX4_advance 197 = .ok (.getfield 15, 3) := by decide +kernel
theorem dX4_advance_200 : decode cX4_advance 200 = .ok (.if_icmp .lt 9, 3) := by decide +kernel
theorem dX4_advance_203 : decode cX4_advance 203 = .ok (.aload_n 0, 1) := by decide +kernel
theorem dX4_advance_204 : decode cX4_advance 204 = .ok (.iconst 0, 1) := by decide +kernel
theorem dX4_advance_205 : decode cX4_advance 205 = .ok (.putfield 31, 3) := by decide +kernel
theorem dX4_advance_208 : decode cX4_advance 208 = .ok (.return_, 1) := by decide +kernel
theorem dX4_append_0 : decode cX4_append 0 = .ok (.iload_n 2, 1) := by decide +kernel
theorem dX4_append_1 : decode cX4_append 1 = .ok (.iconst 1, 1) := by decide +kernel
theorem dX4_append_2 : decode cX4_append 2 = .ok (.isub, 1) := by decide +kernel
theorem dX4_append_3 : decode cX4_append 3 = .ok (.istore_n 3, 1) := by decide +kernel
theorem dX4_append_4 : decode cX4_append 4 = .ok (.iload_n 3, 1) := by decide +kernel
theorem dX4_append_5 : decode cX4_append 5 = .ok (.ifCond .lt 38, 3) := by decide +kernel
theorem dX4_append_8 : decode cX4_append 8 = .ok (.aload_n 0, 1) := by decide +kernel
theorem dX4_append_9 : decode cX4_append 9 = .ok (.getfield 9, 3) := by decide +kernel
theorem dX4_append_12 : decode cX4_append 12 = .ok (.aload_n 0, 1) := by decide +kernel
theorem dX4_append_13 : decode cX4_append 13 = .ok (.getfield 15, 3) := by decide +kernel
theorem dX4_append_16 : decode cX4_append 16 = .ok (.iload_n 1, 1) := by decide +kernel
theorem dX4_append_17 : decode cX4_append 17 = .ok (.bipush 8, 2) := by decide +kernel
theorem dX4_append_19 : decode cX4_append 19 = .ok (.iload_n 3, 1) := by decide +kernel
theorem dX4_append_20 : decode cX4_append 20 = .ok (.imul, 1) := by decide +kernel
theorem dX4_append_21 : decode cX4_append 21 = .ok (.ishr, 1) := by decide +kernel
theorem dX4_append_22 : decode cX4_append 22 = .ok (.sipush 255, 3) := by decide +kernel
theorem dX4_append_25 : decode cX4_append 25 = .ok (.iand, 1) := by decide +kernel
theorem dX4_append_26 : decode cX4_append 26 = .ok (.iastore, 1) := by decide +kernel
theorem dX4_append_27 : decode cX4_append 27 = .ok (.aload_n 0, 1) := by decide +kernel
theorem dX4_append_28 : decode cX4_append 28 = .ok (.dup, 1) := by decide +kernel
theorem dX4_append_29 : decode cX4_append 29 = .ok (.getfield 15, 3) := by decide +kernel
theorem dX4_append_32 : decode cX4_append 32 = .ok (.iconst 1, 1) := by decide +kernel
theorem dX4_append_33 : decode cX4_append 33 = .ok (.iadd, 1) := by decide +kernel
theorem dX4_append_34 : decode cX4_append 34 = .ok (.putfield 15, 3) := by decide +kernel
theorem dX4_append_37 : decode cX4_append 37 = .ok (.iinc 3 (-1), 3) := by decide +kernel
theorem dX4_append_40 : decode cX4_append 40 = .ok (.goto (-36), 3) := by decide +kernel
theorem dX4_append_43 : decode cX4_append 43 = .ok (.return_, 1) := by decide +kernel
theorem dX4_fail_0 : decode cX4_fail 0 = .ok (.aload_n 0, 1) := by decide +kernel
theorem dX4_fail_1 : decode cX4_fail 1 = .ok (.getfield 19, 3) := by decide +kernel
theorem dX4_fail_4 : decode cX4_fail 4 = .ok (.iconst (-1), 1) := by decide +kernel
theorem dX4_fail_5 : decode cX4_fail 5 = .ok (.if_icmp .ne 11, 3) := by decide +kernel
theorem dX4_fail_8 : decode cX4_fail 8 = .ok (.aload_n 0, 1) := by decide +kernel
theorem dX4_fail_9 : decode cX4_fail 9 = .ok (.aload_n 0, 1) := by decide +kernel
theorem dX4_fail_10 : decode cX4_fail 10 = .ok (.getfield 28, 3) := by decide +kernel
theorem dX4_fail_13 : decode cX4_fail 13 = .ok (.putfield 19, 3) := by decide +kernel
theorem dX4_fail_16 : decode cX4_fail 16 = .ok (.return_, 1) := by decide +kernel
theorem dX4_isSound_0 : decode cX4_isSound 0 = .ok (.aload_n 0, 1) := by decide +kernel
theorem dX4_isSound_1 : decode cX4_isSound 1 = .ok (.getfield 19, 3) := by decide +kernel
theorem dX4_isSound_4 : decode cX4_isSound 4 = .ok (.iconst (-1), 1) := by decide +kernel
theorem dX4_isSound_5 : decode cX4_isSound 5 = .ok (.if_icmp .ne 7, 3) := by decide +kernel
theorem dX4_isSound_12 : decode cX4_isSound 12 = .ok (.iconst 0, 1) := by decide +kernel
theorem dX4_isSound_13 : decode cX4_isSound 13 = .ok (.ireturn, 1) := by decide +kernel
theorem dX4_isWord_0 : decode cX4_isWord 0 = .ok (.aload_n 0, 1) := by decide +kernel
theorem dX4_isWord_1 : decode cX4_isWord 1 = .ok (.getfield 19, 3) := by decide +kernel
theorem dX4_isWord_4 : decode cX4_isWord 4 = .ok (.iconst (-1), 1) := by decide +kernel
theorem dX4_isWord_5 : decode cX4_isWord 5 = .ok (.if_icmp .ne 27, 3) := by decide +kernel
theorem dX4_isWord_8 : decode cX4_isWord 8 = .ok (.aload_n 0, 1) := by decide +kernel
theorem dX4_isWord_9 : decode cX4_isWord 9 = .ok (.getfield 31, 3) := by decide +kernel
theorem dX4_isWord_12 : decode cX4_isWord 12 = .ok (.iconst 1, 1) := by decide +kernel
theorem dX4_isWord_13 : decode cX4_isWord 13 = .ok (.if_icmp .ne 19, 3) := by decide +kernel
theorem dX4_isWord_32 : decode cX4_isWord 32 = .ok (.iconst 0, 1) := by decide +kernel
theorem dX4_isWord_33 : decode cX4_isWord 33 = .ok (.ireturn, 1) := by decide +kernel
theorem dX4_rewind_0 : decode cX4_rewind 0 = .ok (.aload_n 0, 1) := by decide +kernel
theorem dX4_rewind_1 : decode cX4_rewind 1 = .ok (.iconst (-1), 1) := by decide +kernel
theorem dX4_rewind_2 : decode cX4_rewind 2 = .ok (.putfield 19, 3) := by decide +kernel
theorem dX4_rewind_5 : decode cX4_rewind 5 = .ok (.aload_n 0, 1) := by decide +kernel
theorem dX4_rewind_6 : decode cX4_rewind 6 = .ok (.iconst 0, 1) := by decide +kernel
theorem dX4_rewind_7 : decode cX4_rewind 7 = .ok (.putfield 22, 3) := by decide +kernel
theorem dX4_rewind_10 : decode cX4_rewind 10 = .ok (.aload_n 0, 1) := by decide +kernel
theorem dX4_rewind_11 : decode cX4_rewind 11 = .ok (.invokevirtual 25, 3) := by decide +kernel
theorem dX4_rewind_14 : decode cX4_rewind 14 = .ok (.return_, 1) := by decide +kernel
theorem dX4_takeWordIfThere_0 : decode cX4_takeWordIfThere 0 = .ok (.aload_n 0, 1) := by decide +kernel
theorem dX4_takeWordIfThere_1 : decode cX4_takeWordIfThere 1 = .ok (.aload_n 1, 1) := by decide +kernel
theorem dX4_takeWordIfThere_2 : decode cX4_takeWordIfThere 2 = .ok (.invokevirtual 47, 3) := by decide +kernel
theorem dX4_takeWordIfThere_5 : decode cX4_takeWordIfThere 5 = .ok (.istore_n 2, 1) := by decide +kernel
theorem dX4_takeWordIfThere_6 : decode cX4_takeWordIfThere 6 = .ok (.iload_n 2, 1) := by decide +kernel
theorem dX4_takeWordIfThere_7 : decode cX4_takeWordIfThere 7 = .ok (.ifCond .eq 7, 3) := by decide +kernel
theorem dX4_takeWordIfThere_14 : decode cX4_takeWordIfThere 14 = .ok (.iload_n 2, 1) := by decide +kernel
theorem dX4_takeWordIfThere_15 : decode cX4_takeWordIfThere 15 = .ok (.ireturn, 1) := by decide +kernel
theorem dX6_again_0 : decode cX6_again 0 = .ok (.aload_n 0, 1) := by decide +kernel
theorem dX6_again_1 : decode cX6_again 1 = .ok (.iload_n 1, 1) := by decide +kernel
theorem dX6_again_2 : decode cX6_again 2 = .ok (.iload_n 2, 1) := by decide +kernel
theorem dX6_again_3 : decode cX6_again 3 = .ok (.iload_n 3, 1) := by decide +kernel
theorem dX6_again_4 : decode cX6_again 4 = .ok (.iload 4, 2) := by decide +kernel
theorem dX6_again_6 : decode cX6_again 6 = .ok (.invokevirtual 238, 3) := by decide +kernel
theorem dX6_again_9 : decode cX6_again 9 = .ok (.ifCond .eq 14, 3) := by decide +kernel
theorem dX6_again_23 : decode cX6_again 23 = .ok (.aload_n 0, 1) := by decide +kernel
theorem dX6_again_24 : decode cX6_again 24 = .ok (.bipush (-2), 2) := by decide +kernel
theorem dX6_again_26 : decode cX6_again 26 = .ok (.invokevirtual 70, 3) := by decide +kernel
theorem dX6_again_29 : decode cX6_again 29 = .ok (.ireturn, 1) := by decide +kernel
theorem dX6_ask_0 : decode cX6_ask 0 = .ok (.iload_n 1, 1) := by decide +kernel
theorem dX6_ask_1 : decode cX6_ask 1 = .ok (.iconst 0, 1) := by decide +kernel
theorem dX6_ask_2 : decode cX6_ask 2 = .ok (.iconst 2, 1) := by decide +kernel
theorem dX6_ask_3 : decode cX6_ask 3 = .ok (.invokestatic 66, 3) := by decide +kernel
theorem dX6_ask_6 : decode cX6_ask 6 = .ok (.ifCond .eq 16, 3) := by decide +kernel
theorem dX6_ask_9 : decode cX6_ask 9 = .ok (.iload_n 2, 1) := by decide +kernel
theorem dX6_ask_10 : decode cX6_ask 10 = .ok (.iconst 0, 1) := by decide +kernel
theorem dX6_ask_11 : decode cX6_ask 11 = .ok (.getstatic 153, 3) := by decide +kernel
theorem dX6_ask_14 : decode cX6_ask 14 = .ok (.iload_n 1, 1) := by decide +kernel
theorem dX6_ask_15 : decode cX6_ask 15 = .ok (.iaload, 1) := by decide +kernel
theorem dX6_ask_16 : decode cX6_ask 16 = .ok (.invokestatic 66, 3) := by decide +kernel
theorem dX6_ask_19 : decode cX6_ask 19 = .ok (.ifCond .ne 10, 3) := by decide +kernel
theorem dX6_ask_22 : decode cX6_ask 22 = .ok (.aload_n 0, 1) := by decide +kernel
theorem dX6_ask_23 : decode cX6_ask 23 = .ok (.bipush (-2), 2) := by decide +kernel
theorem dX6_ask_25 : decode cX6_ask 25 = .ok (.invokevirtual 70, 3) := by decide +kernel
theorem dX6_ask_28 : decode cX6_ask 28 = .ok (.ireturn, 1) := by decide +kernel
theorem dX6_ask_29 : decode cX6_ask 29 = .ok (.aload_n 0, 1) := by decide +kernel
theorem dX6_ask_30 : decode cX6_ask 30 = .ok (.getfield 10, 3) := by decide +kernel
theorem dX6_ask_33 : decode cX6_ask 33 = .ok (.getfield 156, 3) := by decide +kernel
theorem dX6_ask_36 : decode cX6_ask 36 = .ok (.iload_n 1, 1) := by decide +kernel
theorem dX6_ask_37 : decode cX6_ask 37 = .ok (.iaload, 1) := by decide +kernel
theorem dX6_ask_38 : decode cX6_ask 38 = .ok (.istore_n 3, 1) := by decide +kernel
theorem dX6_ask_39 : decode cX6_ask 39 = .ok (.aload_n 0, 1) := by decide +kernel
theorem dX6_ask_40 : decode cX6_ask 40 = .ok (.getfield 10, 3) := by decide +kernel
theorem dX6_ask_43 : decode cX6_ask 43 = .ok (.getfield 156, 3) := by decide +kernel
theorem dX6_ask_46 : decode cX6_ask 46 = .ok (.iload_n 1, 1) := by decide +kernel
theorem dX6_ask_47 : decode cX6_ask 47 = .ok (.iload_n 2, 1) := by decide +kernel
theorem dX6_ask_48 : decode cX6_ask 48 = .ok (.iastore, 1) := by decide +kernel
theorem dX6_ask_49 : decode cX6_ask 49 = .ok (.iload_n 3, 1) := by decide +kernel
theorem dX6_ask_50 : decode cX6_ask 50 = .ok (.ireturn, 1) := by decide +kernel
theorem dX6_axle_0 : decode cX6_axle 0 = .ok (.aload_n 0, 1) := by decide +kernel
theorem dX6_axle_1 : decode cX6_axle 1 = .ok (.iload_n 1, 1) := by decide +kernel
theorem dX6_axle_2 : decode cX6_axle 2 = .ok (.iload_n 2, 1) := by decide +kernel
theorem dX6_axle_3 : decode cX6_axle 3 = .ok (.invokevirtual 200, 3) := by decide +kernel
theorem dX6_axle_6 : decode cX6_axle 6 = .ok (.ifCond .ne 10, 3) := by decide +kernel
theorem dX6_axle_9 : decode cX6_axle 9 = .ok (.aload_n 0, 1) := by decide +kernel
theorem dX6_axle_10 : decode cX6_axle 10 = .ok (.bipush (-2), 2) := by decide +kernel
theorem dX6_axle_12 : decode cX6_axle 12 = .ok (.invokevirtual 70, 3) := by decide +kernel
theorem dX6_axle_15 : decode cX6_axle 15 = .ok (.ireturn, 1) := by decide +kernel
theorem dX6_back_0 : decode cX6_back 0 = .ok (.aload_n 0, 1) := by decide +kernel
theorem dX6_back_1 : decode cX6_back 1 = .ok (.getfield 19, 3) := by decide +kernel
theorem dX6_back_4 : decode cX6_back 4 = .ok (.ifCond .ne 10, 3) := by decide +kernel
theorem dX6_back_7 : decode cX6_back 7 = .ok (.aload_n 0, 1) := by decide +kernel
theorem dX6_back_8 : decode cX6_back 8 = .ok (.bipush (-5), 2) := by decide +kernel
theorem dX6_back_10 : decode cX6_back 10 = .ok (.invokevirtual 70, 3) := by decide +kernel
theorem dX6_back_13 : decode cX6_back 13 = .ok (.ireturn, 1) := by decide +kernel
theorem dX6_bears_0 : decode cX6_bears 0 = .ok (.aload_n 0, 1) := by decide +kernel
theorem dX6_bears_1 : decode cX6_bears 1 = .ok (.iload_n 1, 1) := by decide +kernel
theorem dX6_bears_2 : decode cX6_bears 2 = .ok (.invokevirtual 112, 3) := by decide +kernel
theorem dX6_bears_5 : decode cX6_bears 5 = .ok (.ifCond .ne 10, 3) := by decide +kernel
theorem dX6_bears_8 : decode cX6_bears 8 = .ok (.aload_n 0, 1) := by decide +kernel
theorem dX6_bears_9 : decode cX6_bears 9 = .ok (.bipush (-2), 2) := by decide +kernel
theorem dX6_bears_11 : decode cX6_bears 11 = .ok (.invokevirtual 70, 3) := by decide +kernel
theorem dX6_bears_14 : decode cX6_bears 14 = .ok (.ireturn, 1) := by decide +kernel
theorem dX6_begin_0 : decode cX6_begin 0 = .ok (.aload_n 0, 1) := by decide +kernel
theorem dX6_begin_1 : decode cX6_begin 1 = .ok (.iload_n 1, 1) := by decide +kernel
theorem dX6_begin_2 : decode cX6_begin 2 = .ok (.iload_n 2, 1) := by decide +kernel
theorem dX6_begin_3 : decode cX6_begin 3 = .ok (.iload_n 3, 1) := by decide +kernel
theorem dX6_begin_4 : decode cX6_begin 4 = .ok (.iload 4, 2) := by decide +kernel
theorem dX6_begin_6 : decode cX6_begin 6 = .ok (.invokevirtual 238, 3) := by decide +kernel
theorem dX6_begin_9 : decode cX6_begin 9 = .ok (.ifCond .ne 10, 3) := by decide +kernel
theorem dX6_begin_12 : decode cX6_begin 12 = .ok (.aload_n 0, 1) := by decide +kernel
theorem dX6_begin_13 : decode cX6_begin 13 = .ok (.bipush (-2), 2) := by decide +kernel
theorem dX6_begin_15 : decode cX6_begin 15 = .ok (.invokevirtual 70, 3) := by decide +kernel
theorem dX6_begin_18 : decode cX6_begin 18 = .ok (.ireturn, 1) := by decide +kernel
theorem dX6_best_0 : decode cX6_best 0 = .ok (.iload_n 1, 1) := by decide +kernel
theorem dX6_best_1 : decode cX6_best 1 = .ok (.invokestatic 126, 3) := by decide +kernel
theorem dX6_best_4 : decode cX6_best 4 = .ok (.ifCond .eq 19, 3) := by decide +kernel
theorem dX6_best_7 : decode cX6_best 7 = .ok (.iload_n 2, 1) := by decide +kernel
theorem dX6_best_8 : decode cX6_best 8 = .ok (.invokestatic 126, 3) := by decide +kernel
theorem dX6_best_11 : decode cX6_best 11 = .ok (.ifCond .eq 12, 3) := by decide +kernel
theorem dX6_best_14 : decode cX6_best 14 = .ok (.iload_n 3, 1) := by decide +kernel
theorem dX6_best_15 : decode cX6_best 15 = .ok (.iconst 0, 1) := by decide +kernel
theorem dX6_best_16 : decode cX6_best 16 = .ok (.iconst 2, 1) := by decide +kernel
theorem dX6_best_17 : decode cX6_best 17 = .ok (.invokestatic 66, 3) := by decide +kernel
theorem dX6_best_20 : decode cX6_best 20 = .ok (.ifCond .ne 10, 3) := by decide +kernel
theorem dX6_best_23 : decode cX6_best 23 = .ok (.aload_n 0, 1) := by decide +kernel
theorem dX6_best_24 : decode cX6_best 24 = .ok (.bipush (-2), 2) := by decide +kernel
theorem dX6_best_26 : decode cX6_best 26 = .ok (.invokevirtual 70, 3) := by decide +kernel
theorem dX6_best_29 : decode cX6_best 29 = .ok (.ireturn, 1) := by decide +kernel
theorem dX6_best_30 : decode cX6_best 30 = .ok (.aload_n 0, 1) := by decide +kernel
theorem dX6_best_31 : decode cX6_best 31 = .ok (.iload_n 1, 1) := by decide +kernel
theorem dX6_best_32 : decode cX6_best 32 = .ok (.iload_n 2, 1) := by decide +kernel
theorem dX6_best_33 : decode cX6_best 33 = .ok (.invokevirtual 252, 3) := by decide +kernel
theorem dX6_best_36 : decode cX6_best 36 = .ok (.aload_n 0, 1) := by decide +kernel
theorem dX6_best_37 : decode cX6_best 37 = .ok (.getfield 59, 3) := by decide +kernel
theorem dX6_best_40 : decode cX6_best 40 = .ok (.iconst 2, 1) := by decide +kernel
theorem dX6_best_41 : decode cX6_best 41 = .ok (.iaload, 1) := by decide +kernel
theorem dX6_best_42 : decode cX6_best 42 = .ok (.ldc 255, 2) := by decide +kernel
theorem dX6_best_44 : decode cX6_best 44 = .ok (.if_icmp .ne 12, 3) := by decide +kernel
theorem dX6_best_47 : decode cX6_best 47 = .ok (.aload_n 0, 1) := by decide +kernel
theorem dX6_best_48 : decode cX6_best 48 = .ok (.bipush (-5), 2) := by decide +kernel
theorem dX6_best_50 : decode cX6_best 50 = .ok (.invokevirtual 70, 3) := by decide +kernel
theorem dX6_best_53 : decode cX6_best 53 = .ok (.goto 9, 3) := by decide +kernel
theorem dX6_best_62 : decode cX6_best 62 = .ok (.ireturn, 1) := by decide +kernel
theorem dX6_bridge_0 : decode cX6_bridge 0 = .ok (.aload_n 0, 1) := by decide +kernel
theorem dX6_bridge_1 : decode cX6_bridge 1 = .ok (.iload_n 1, 1) := by decide +kernel
theorem dX6_bridge_2 : decode cX6_bridge 2 = .ok (.invokevirtual 136, 3) := by decide +kernel
theorem dX6_bridge_5 : decode cX6_bridge 5 = .ok (.ifCond .eq 45, 3) := by decide +kernel
theorem dX6_bridge_50 : decode cX6_bridge 50 = .ok (.aload_n 0, 1) := by decide +kernel
theorem dX6_bridge_51 : decode cX6_bridge 51 = .ok (.bipush (-2), 2) := by decide +kernel
theorem dX6_bridge_53 : decode cX6_bridge 53 = .ok (.invokevirtual 70, 3) := by decide +kernel
theorem dX6_bridge_56 : decode cX6_bridge 56 = .ok (.ireturn, 1) := by decide +kernel
theorem dX6_bridgeOf_0 : decode cX6_bridgeOf 0 = .ok (.aload_n 0, 1) := by decide +kernel
theorem dX6_bridgeOf_1 : decode cX6_bridgeOf 1 = .ok (.iload_n 1, 1) := by decide +kernel
theorem dX6_bridgeOf_2 : decode cX6_bridgeOf 2 = .ok (.invokevirtual 112, 3) := by decide +kernel
theorem dX6_bridgeOf_5 : decode cX6_bridgeOf 5 = .ok (.ifCond .eq 13, 3) := by decide +kernel
theorem dX6_bridgeOf_18 : decode cX6_bridgeOf 18 = .ok (.aload_n 0, 1) := by decide +kernel
theorem dX6_bridgeOf_19 : decode cX6_bridgeOf 19 = .ok (.bipush (-2), 2) := by decide +kernel
theorem dX6_bridgeOf_21 : decode cX6_bridgeOf 21 = .ok (.invokevirtual 70, 3) := by decide +kernel
theorem dX6_bridgeOf_24 : decode cX6_bridgeOf 24 = .ok (.ireturn, 1) := by decide +kernel
theorem dX6_cheapest_0 : decode cX6_cheapest 0 = .ok (.aload_n 0, 1) := by decide +kernel
theorem dX6_cheapest_1 : decode cX6_cheapest 1 = .ok (.iload_n 1, 1) := by decide +kernel
theorem dX6_cheapest_2 : decode cX6_cheapest 2 = .ok (.iload_n 2, 1) := by decide +kernel
theorem dX6_cheapest_3 : decode cX6_cheapest 3 = .ok (.iload_n 3, 1) := by decide +kernel
theorem dX6_cheapest_4 : decode cX6_cheapest 4 = .ok (.iload 4, 2) := by decide +kernel
theorem dX6_cheapest_6 : decode cX6_cheapest 6 = .ok (.invokevirtual 238, 3) := by decide +kernel
theorem dX6_cheapest_9 : decode cX6_cheapest 9 = .ok (.ifCond .ne 10, 3) := by decide +kernel
theorem dX6_cheapest_12 : decode cX6_cheapest 12 = .ok (.aload_n 0, 1) := by decide +kernel
theorem dX6_cheapest_13 : decode cX6_cheapest 13 = .ok (.bipush (-2), 2) := by decide +kernel
theorem dX6_cheapest_15 : decode cX6_cheapest 15 = .ok (.invokevirtual 70, 3) := by decide +kernel
theorem dX6_cheapest_18 : decode cX6_cheapest 18 = .ok (.ireturn, 1) := by decide +kernel
theorem dX6_copy_0 : decode cX6_copy 0 = .ok (.iload_n 1, 1) := by decide +kernel
theorem dX6_copy_1 : decode cX6_copy 1 = .ok (.invokestatic 62, 3) := by decide +kernel
theorem dX6_copy_4 : decode cX6_copy 4 = .ok (.ifCond .eq 10, 3) := by decide +kernel
theorem dX6_copy_7 : decode cX6_copy 7 = .ok (.iload_n 2, 1) := by decide +kernel
theorem dX6_copy_8 : decode cX6_copy 8 = .ok (.invokestatic 62, 3) := by decide +kernel
theorem dX6_copy_11 : decode cX6_copy 11 = .ok (.ifCond .ne 10, 3) := by decide +kernel
theorem dX6_copy_14 : decode cX6_copy 14 = .ok (.aload_n 0, 1) := by decide +kernel
theorem dX6_copy_15 : decode cX6_copy 15 = .ok (.bipush (-2), 2) := by decide +kernel
theorem dX6_copy_17 : decode cX6_copy 17 = .ok (.invokevirtual 70, 3) := by decide +kernel
theorem dX6_copy_20 : decode cX6_copy 20 = .ok (.ireturn, 1) := by decide +kernel
theorem dX6_copy_21 : decode cX6_copy 21 = .ok (.aload_n 0, 1) := by decide +kernel
theorem dX6_copy_22 : decode cX6_copy 22 = .ok (.getfield 35, 3) := by decide +kernel
theorem dX6_copy_25 : decode cX6_copy 25 = .ok (.iload_n 1, 1) := by decide +kernel
theorem dX6_copy_26 : decode cX6_copy 26 = .ok (.invokevirtual 88, 3) := by decide +kernel
theorem dX6_copy_29 : decode cX6_copy 29 = .ok (.ifCond .ne 26, 3) := by decide +kernel
theorem dX6_copy_32 : decode cX6_copy 32 = .ok (.aload_n 0, 1) := by decide +kernel
theorem dX6_copy_33 : decode cX6_copy 33 = .ok (.getfield 35, 3) := by decide +kernel
theorem dX6_copy_36 : decode cX6_copy 36 = .ok (.iload_n 2, 1) := by decide +kernel
theorem dX6_copy_37 : decode cX6_copy 37 = .ok (.invokevirtual 88, 3) := by decide +kernel
theorem dX6_copy_40 : decode cX6_copy 40 = .ok (.ifCond .ne 15, 3) := by decide +kernel
theorem dX6_copy_43 : decode cX6_copy 43 = .ok (.aload_n 0, 1) := by decide +kernel
theorem dX6_copy_44 : decode cX6_copy 44 = .ok (.getfield 35, 3) := by decide +kernel
theorem dX6_copy_47 : decode cX6_copy 47 = .ok (.iload_n 1, 1) := by decide +kernel
theorem dX6_copy_48 : decode cX6_copy 48 = .ok (.iload_n 2, 1) := by decide +kernel
theorem dX6_copy_49 : decode cX6_copy 49 = .ok (.invokevirtual 91, 3) := by decide +kernel
theorem dX6_copy_52 : decode cX6_copy 52 = .ok (.ifCond .eq 10, 3) := by decide +kernel
theorem dX6_copy_62 : decode cX6_copy 62 = .ok (.aload_n 0, 1) := by decide +kernel
theorem dX6_copy_63 : decode cX6_copy 63 = .ok (.getfield 35, 3) := by decide +kernel
theorem dX6_copy_66 : decode cX6_copy 66 = .ok (.iload_n 1, 1) := by decide +kernel
theorem dX6_copy_67 : decode cX6_copy 67 = .ok (.invokevirtual 95, 3) := by decide +kernel
theorem dX6_copy_70 : decode cX6_copy 70 = .ok (.ifCond .ne 14, 3) := by decide +kernel
theorem dX6_copy_84 : decode cX6_copy 84 = .ok (.aload_n 0, 1) := by decide +kernel
theorem dX6_copy_85 : decode cX6_copy 85 = .ok (.bipush (-4), 2) := by decide +kernel
theorem dX6_copy_87 : decode cX6_copy 87 = .ok (.invokevirtual 70, 3) := by decide +kernel
theorem dX6_copy_90 : decode cX6_copy 90 = .ok (.ireturn, 1) := by decide +kernel
theorem dX6_element_0 : decode cX6_element 0 = .ok (.iload_n 1, 1) := by decide +kernel
theorem dX6_element_1 : decode cX6_element 1 = .ok (.invokestatic 62, 3) := by decide +kernel
theorem dX6_element_4 : decode cX6_element 4 = .ok (.ifCond .eq 14, 3) := by decide +kernel
theorem dX6_element_7 : decode cX6_element 7 = .ok (.aload_n 0, 1) := by decide +kernel
theorem dX6_element_8 : decode cX6_element 8 = .ok (.getfield 35, 3) := by decide +kernel
theorem dX6_element_11 : decode cX6_element 11 = .ok (.iload_n 1, 1) := by decide +kernel
theorem dX6_element_12 : decode cX6_element 12 = .ok (.invokevirtual 102, 3) := by decide +kernel
theorem dX6_element_15 : decode cX6_element 15 = .ok (.ifCond .ne 5, 3) := by decide +kernel
theorem dX6_element_18 : decode cX6_element 18 = .ok (.lconst 0, 1) := by decide +kernel
theorem dX6_element_19 : decode cX6_element 19 = .ok (.lreturn, 1) := by decide +kernel
theorem dX6_feed_0 : decode cX6_feed 0 = .ok (.iload_n 2, 1) := by decide +kernel
theorem dX6_feed_1 : decode cX6_feed 1 = .ok (.iconst 1, 1) := by decide +kernel
theorem dX6_feed_2 : decode cX6_feed 2 = .ok (.iconst 4, 1) := by decide +kernel
theorem dX6_feed_3 : decode cX6_feed 3 = .ok (.invokestatic 66, 3) := by decide +kernel
theorem dX6_feed_6 : decode cX6_feed 6 = .ok (.ifCond .ne 10, 3) := by decide +kernel
theorem dX6_feed_9 : decode cX6_feed 9 = .ok (.aload_n 0, 1) := by decide +kernel
theorem dX6_feed_10 : decode cX6_feed 10 = .ok (.bipush (-2), 2) := by decide +kernel
theorem dX6_feed_12 : decode cX6_feed 12 = .ok (.invokevirtual 70, 3) := by decide +kernel
theorem dX6_feed_15 : decode cX6_feed 15 = .ok (.ireturn, 1) := by decide +kernel
theorem dX6_feed_16 : decode cX6_feed 16 = .ok (.aload_n 0, 1) := by decide +kernel
theorem dX6_feed_17 : decode cX6_feed 17 = .ok (.getfield 42, 3) := by decide +kernel
theorem dX6_feed_20 : decode cX6_feed 20 = .ok (.getfield 171, 3) := by decide +kernel
theorem dX6_feed_23 : decode cX6_feed 23 = .ok (.iload_n 2, 1) := by decide +kernel
theorem dX6_feed_24 : decode cX6_feed 24 = .ok (.iadd, 1) := by decide +kernel
theorem dX6_feed_25 : decode cX6_feed 25 = .ok (.sipush 250, 3) := by decide +kernel
theorem dX6_feed_28 : decode cX6_feed 28 = .ok (.if_icmp .le 10, 3) := by decide +kernel
theorem dX6_feed_38 : decode cX6_feed 38 = .ok (.aload_n 0, 1) := by decide +kernel
theorem dX6_feed_39 : decode cX6_feed 39 = .ok (.getfield 42, 3) := by decide +kernel
theorem dX6_feed_42 : decode cX6_feed 42 = .ok (.iload_n 1, 1) := by decide +kernel
theorem dX6_feed_43 : decode cX6_feed 43 = .ok (.iload_n 2, 1) := by decide +kernel
theorem dX6_feed_44 : decode cX6_feed 44 = .ok (.invokevirtual 174, 3) := by decide +kernel
theorem dX6_feed_47 : decode cX6_feed 47 = .ok (.aload_n 0, 1) := by decide +kernel
theorem dX6_feed_48 : decode cX6_feed 48 = .ok (.getfield 42, 3) := by decide +kernel
theorem dX6_feed_51 : decode cX6_feed 51 = .ok (.getfield 171, 3) := by decide +kernel
theorem dX6_feed_54 : decode cX6_feed 54 = .ok (.ireturn, 1) := by decide +kernel
theorem dX6_fewest_0 : decode cX6_fewest 0 = .ok (.aload_n 0, 1) := by decide +kernel
theorem dX6_fewest_1 : decode cX6_fewest 1 = .ok (.iload_n 1, 1) := by decide +kernel
theorem dX6_fewest_2 : decode cX6_fewest 2 = .ok (.invokevirtual 194, 3) := by decide +kernel
theorem dX6_fewest_5 : decode cX6_fewest 5 = .ok (.ifCond .eq 17, 3) := by decide +kernel
theorem dX6_fewest_22 : decode cX6_fewest 22 = .ok (.aload_n 0, 1) := by decide +kernel
theorem dX6_fewest_23 : decode cX6_fewest 23 = .ok (.bipush (-2), 2) := by decide +kernel
theorem dX6_fewest_25 : decode cX6_fewest 25 = .ok (.invokevirtual 70, 3) := by decide +kernel
theorem dX6_fewest_28 : decode cX6_fewest 28 = .ok (.ireturn, 1) := by decide +kernel
theorem dX6_findBest_0 : decode cX6_findBest 0 = .ok (.aload_n 0, 1) := by decide +kernel
theorem dX6_findBest_1 : decode cX6_findBest 1 = .ok (.getfield 59, 3) := by decide +kernel
theorem dX6_findBest_4 : decode cX6_findBest 4 = .ok (.iconst 2, 1) := by decide +kernel
theorem dX6_findBest_5 : decode cX6_findBest 5 = .ok (.ldc 255, 2) := by decide +kernel
theorem dX6_findBest_7 : decode cX6_findBest 7 = .ok (.iastore, 1) := by decide +kernel
theorem dX6_findBest_8 : decode cX6_findBest 8 = .ok (.iconst 0, 1) := by decide +kernel
theorem dX6_findBest_9 : decode cX6_findBest 9 = .ok (.istore_n 3, 1) := by decide +kernel
theorem dX6_findBest_10 : decode cX6_findBest 10 = .ok (.iload_n 3, 1) := by decide +kernel
theorem dX6_findBest_11 : decode cX6_findBest 11 = .ok (.aload_n 0, 1) := by decide +kernel
theorem dX6_findBest_12 : decode cX6_findBest 12 = .ok (.getfield 10, 3) := by decide +kernel
theorem dX6_findBest_15 : decode cX6_findBest 15 = .ok (.getfield 273, 3) := by decide +kernel
theorem dX6_findBest_18 : decode cX6_findBest 18 = .ok (.iconst 2, 1) := by decide +kernel
theorem dX6_findBest_19 : decode cX6_findBest 19 = .ok (.iaload, 1) := by decide +kernel
theorem dX6_findBest_20 : decode cX6_findBest 20 = .ok (.if_icmp .ge 98, 3) := by decide +kernel
theorem dX6_findBest_118 : decode cX6_findBest 118 = .ok (.return_, 1) := by decide +kernel
theorem dX6_frost_0 : decode cX6_frost 0 = .ok (.aload_n 0, 1) := by decide +kernel
theorem dX6_frost_1 : decode cX6_frost 1 = .ok (.iload_n 1, 1) := by decide +kernel
theorem dX6_frost_2 : decode cX6_frost 2 = .ok (.iload_n 2, 1) := by decide +kernel
theorem dX6_frost_3 : decode cX6_frost 3 = .ok (.iload_n 3, 1) := by decide +kernel
theorem dX6_frost_4 : decode cX6_frost 4 = .ok (.iload 4, 2) := by decide +kernel
theorem dX6_frost_6 : decode cX6_frost 6 = .ok (.invokevirtual 238, 3) := by decide +kernel
theorem dX6_frost_9 : decode cX6_frost 9 = .ok (.ifCond .eq 37, 3) := by decide +kernel
theorem dX6_frost_46 : decode cX6_frost 46 = .ok (.aload_n 0, 1) := by decide +kernel
theorem dX6_frost_47 : decode cX6_frost 47 = .ok (.bipush (-2), 2) := by decide +kernel
theorem dX6_frost_49 : decode cX6_frost 49 = .ok (.invokevirtual 70, 3) := by decide +kernel
theorem dX6_frost_52 : decode cX6_frost 52 = .ok (.i2l, 1) := by decide +kernel
theorem dX6_frost_53 : decode cX6_frost 53 = .ok (.lreturn, 1) := by decide +kernel
theorem dX6_goes_0 : decode cX6_goes 0 = .ok (.aload_n 0, 1) := by decide +kernel
theorem dX6_goes_1 : decode cX6_goes 1 = .ok (.iload_n 1, 1) := by decide +kernel
theorem dX6_goes_2 : decode cX6_goes 2 = .ok (.iload_n 2, 1) := by decide +kernel
theorem dX6_goes_3 : decode cX6_goes 3 = .ok (.invokevirtual 200, 3) := by decide +kernel
theorem dX6_goes_6 : decode cX6_goes 6 = .ok (.ifCond .eq 21, 3) := by decide +kernel
theorem dX6_goes_27 : decode cX6_goes 27 = .ok (.aload_n 0, 1) := by decide +kernel
theorem dX6_goes_28 : decode cX6_goes 28 = .ok (.bipush (-2), 2) := by decide +kernel
theorem dX6_goes_30 : decode cX6_goes 30 = .ok (.invokevirtual 70, 3) := by decide +kernel
theorem dX6_goes_33 : decode cX6_goes 33 = .ok (.ireturn, 1) := by decide +kernel
theorem dX6_hang_0 : decode cX6_hang 0 = .ok (.aload_n 0, 1) := by decide +kernel
theorem dX6_hang_1 : decode cX6_hang 1 = .ok (.iload_n 1, 1) := by decide +kernel
theorem dX6_hang_2 : decode cX6_hang 2 = .ok (.iload_n 2, 1) := by decide +kernel
theorem dX6_hang_3 : decode cX6_hang 3 = .ok (.iload_n 3, 1) := by decide +kernel
theorem dX6_hang_4 : decode cX6_hang 4 = .ok (.iload 4, 2) := by decide +kernel
theorem dX6_hang_6 : decode cX6_hang 6 = .ok (.invokevirtual 238, 3) := by decide +kernel
theorem dX6_hang_9 : decode cX6_hang 9 = .ok (.ifCond .ne 10, 3) := by decide +kernel
theorem dX6_hang_12 : decode cX6_hang 12 = .ok (.aload_n 0, 1) := by decide +kernel
theorem dX6_hang_13 : decode cX6_hang 13 = .ok (.bipush (-2), 2) := by decide +kernel
theorem dX6_hang_15 : decode cX6_hang 15 = .ok (.invokevirtual 70, 3) := by decide +kernel
theorem dX6_hang_18 : decode cX6_hang 18 = .ok (.ireturn, 1) := by decide +kernel
theorem dX6_holds_0 : decode cX6_holds 0 = .ok (.iload_n 1, 1) := by decide +kernel
theorem dX6_holds_1 : decode cX6_holds 1 = .ok (.invokestatic 62, 3) := by decide +kernel
theorem dX6_holds_4 : decode cX6_holds 4 = .ok (.ifCond .eq 15, 3) := by decide +kernel
theorem dX6_holds_7 : decode cX6_holds 7 = .ok (.aload_n 0, 1) := by decide +kernel
theorem dX6_holds_8 : decode cX6_holds 8 = .ok (.getfield 35, 3) := by decide +kernel
theorem dX6_holds_11 : decode cX6_holds 11 = .ok (.getfield 109, 3) := by decide +kernel
theorem dX6_holds_14 : decode cX6_holds 14 = .ok (.iload_n 1, 1) := by decide +kernel
theorem dX6_holds_15 : decode cX6_holds 15 = .ok (.iaload, 1) := by decide +kernel
theorem dX6_holds_16 : decode cX6_holds 16 = .ok (.goto 4, 3) := by decide +kernel
theorem dX6_holds_19 : decode cX6_holds 19 = .ok (.iconst (-1), 1) := by decide +kernel
theorem dX6_holds_20 : decode cX6_holds 20 = .ok (.ireturn, 1) := by decide +kernel
theorem dX6_image_0 : decode cX6_image 0 = .ok (.aload_n 0, 1) := by decide +kernel
theorem dX6_image_1 : decode cX6_image 1 = .ok (.getfield 16, 3) := by decide +kernel
theorem dX6_image_4 : decode cX6_image 4 = .ok (.aload_n 0, 1) := by decide +kernel
theorem dX6_image_5 : decode cX6_image 5 = .ok (.getfield 10, 3) := by decide +kernel
theorem dX6_image_8 : decode cX6_image 8 = .ok (.invokevirtual 314, 3) := by decide +kernel
theorem dX6_image_11 : decode cX6_image 11 = .ok (.aload_n 0, 1) := by decide +kernel
theorem dX6_image_12 : decode cX6_image 12 = .ok (.iconst 1, 1) := by decide +kernel
theorem dX6_image_13 : decode cX6_image 13 = .ok (.putfield 19, 3) := by decide +kernel
theorem dX6_image_16 : decode cX6_image 16 = .ok (.iconst 1, 1) := by decide +kernel
theorem dX6_image_17 : decode cX6_image 17 = .ok (.ireturn, 1) := by decide +kernel
theorem dX6_isBridge_0 : decode cX6_isBridge 0 = .ok (.iload_n 1, 1) := by decide +kernel
theorem dX6_isBridge_1 : decode cX6_isBridge 1 = .ok (.iconst 0, 1) := by decide +kernel
theorem dX6_isBridge_2 : decode cX6_isBridge 2 = .ok (.aload_n 0, 1) := by decide +kernel
theorem dX6_isBridge_3 : decode cX6_isBridge 3 = .ok (.getfield 10, 3) := by decide +kernel
theorem dX6_isBridge_6 : decode cX6_isBridge 6 = .ok (.getfield 273, 3) := by decide +kernel
theorem dX6_isBridge_9 : decode cX6_isBridge 9 = .ok (.iconst 1, 1) := by decide +kernel
theorem dX6_isBridge_10 : decode cX6_isBridge 10 = .ok (.iaload, 1) := by decide +kernel
theorem dX6_isBridge_11 : decode cX6_isBridge 11 = .ok (.iconst 1, 1) := by decide +kernel
theorem dX6_isBridge_12 : decode cX6_isBridge 12 = .ok (.isub, 1) := by decide +kernel
theorem dX6_isBridge_13 : decode cX6_isBridge 13 = .ok (.invokestatic 66, 3) := by decide +kernel
theorem dX6_isBridge_16 : decode cX6_isBridge 16 = .ok (.ireturn, 1) := by decide +kernel
theorem dX6_isJourney_0 : decode cX6_isJourney 0 = .ok (.aload_n 0, 1) := by decide +kernel
theorem dX6_isJourney_1 : decode cX6_isJourney 1 = .ok (.iload_n 1, 1) := by decide +kernel
theorem dX6_isJourney_2 : decode cX6_isJourney 2 = .ok (.iload_n 2, 1) := by decide +kernel
theorem dX6_isJourney_3 : decode cX6_isJourney 3 = .ok (.invokevirtual 200, 3) := by decide +kernel
theorem dX6_isJourney_6 : decode cX6_isJourney 6 = .ok (.ifCond .eq 22, 3) := by decide +kernel
theorem dX6_isJourney_28 : decode cX6_isJourney 28 = .ok (.iconst 0, 1) := by decide +kernel
theorem dX6_isJourney_29 : decode cX6_isJourney 29 = .ok (.ireturn, 1) := by decide +kernel
theorem dX6_isPack_0 : decode cX6_isPack 0 = .ok (.aload_n 0, 1) := by decide +kernel
theorem dX6_isPack_1 : decode cX6_isPack 1 = .ok (.iload_n 1, 1) := by decide +kernel
theorem dX6_isPack_2 : decode cX6_isPack 2 = .ok (.invokevirtual 194, 3) := by decide +kernel
theorem dX6_isPack_5 : decode cX6_isPack 5 = .ok (.ifCond .eq 24, 3) := by decide +kernel
theorem dX6_isPack_29 : decode cX6_isPack 29 = .ok (.iconst 0, 1) := by decide +kernel
theorem dX6_isPack_30 : decode cX6_isPack 30 = .ok (.ireturn, 1) := by decide +kernel
theorem dX6_isPlace_0 : decode cX6_isPlace 0 = .ok (.iload_n 0, 1) := by decide +kernel
theorem dX6_isPlace_1 : decode cX6_isPlace 1 = .ok (.iconst 0, 1) := by decide +kernel
theorem dX6_isPlace_2 : decode cX6_isPlace 2 = .ok (.bipush 15, 2) := by decide +kernel
theorem dX6_isPlace_4 : decode cX6_isPlace 4 = .ok (.invokestatic 66, 3) := by decide +kernel
theorem dX6_isPlace_7 : decode cX6_isPlace 7 = .ok (.ireturn, 1) := by decide +kernel
theorem dX6_isRoad_0 : decode cX6_isRoad 0 = .ok (.iload_n 1, 1) := by decide +kernel
theorem dX6_isRoad_1 : decode cX6_isRoad 1 = .ok (.iconst 0, 1) := by decide +kernel
theorem dX6_isRoad_2 : decode cX6_isRoad 2 = .ok (.aload_n 0, 1) := by decide +kernel
theorem dX6_isRoad_3 : decode cX6_isRoad 3 = .ok (.getfield 10, 3) := by decide +kernel
theorem dX6_isRoad_6 : decode cX6_isRoad 6 = .ok (.getfield 273, 3) := by decide +kernel
theorem dX6_isRoad_9 : decode cX6_isRoad 9 = .ok (.iconst 0, 1) := by decide +kernel
theorem dX6_isRoad_10 : decode cX6_isRoad 10 = .ok (.iaload, 1) := by decide +kernel
theorem dX6_isRoad_11 : decode cX6_isRoad 11 = .ok (.iconst 1, 1) := by decide +kernel
theorem dX6_isRoad_12 : decode cX6_isRoad 12 = .ok (.isub, 1) := by decide +kernel
theorem dX6_isRoad_13 : decode cX6_isRoad 13 = .ok (.invokestatic 66, 3) := by decide +kernel
theorem dX6_isRoad_16 : decode cX6_isRoad 16 = .ok (.ireturn, 1) := by decide +kernel
theorem dX6_isShelf_0 : decode cX6_isShelf 0 = .ok (.iload_n 0, 1) := by decide +kernel
theorem dX6_isShelf_1 : decode cX6_isShelf 1 = .ok (.iconst 0, 1) := by decide +kernel
theorem dX6_isShelf_2 : decode cX6_isShelf 2 = .ok (.bipush 7, 2) := by decide +kernel
theorem dX6_isShelf_4 : decode cX6_isShelf 4 = .ok (.invokestatic 66, 3) := by decide +kernel
theorem dX6_isShelf_7 : decode cX6_isShelf 7 = .ok (.ireturn, 1) := by decide +kernel
theorem dX6_isWaggon_0 : decode cX6_isWaggon 0 = .ok (.iload_n 1, 1) := by decide +kernel
theorem dX6_isWaggon_1 : decode cX6_isWaggon 1 = .ok (.iconst 0, 1) := by decide +kernel
theorem dX6_isWaggon_2 : decode cX6_isWaggon 2 = .ok (.aload_n 0, 1) := by decide +kernel
theorem dX6_isWaggon_3 : decode cX6_isWaggon 3 = .ok (.getfield 10, 3) := by decide +kernel
theorem dX6_isWaggon_6 : decode cX6_isWaggon 6 = .ok (.getfield 273, 3) := by decide +kernel
theorem dX6_isWaggon_9 : decode cX6_isWaggon 9 = .ok (.iconst 2, 1) := by decide +kernel
theorem dX6_isWaggon_10 : decode cX6_isWaggon 10 = .ok (.iaload, 1) := by decide +kernel
theorem dX6_isWaggon_11 : decode cX6_isWaggon 11 = .ok (.iconst 1, 1) := by decide +kernel
theorem dX6_isWaggon_12 : decode cX6_isWaggon 12 = .ok (.isub, 1) := by decide +kernel
theorem dX6_isWaggon_13 : decode cX6_isWaggon 13 = .ok (.invokestatic 66, 3) := by decide +kernel
theorem dX6_isWaggon_16 : decode cX6_isWaggon 16 = .ok (.ireturn, 1) := by decide +kernel
theorem dX6_judge_0 : decode cX6_judge 0 = .ok (.aload_n 0, 1) := by decide +kernel
theorem dX6_judge_1 : decode cX6_judge 1 = .ok (.iload_n 1, 1) := by decide +kernel
theorem dX6_judge_2 : decode cX6_judge 2 = .ok (.iload_n 2, 1) := by decide +kernel
theorem dX6_judge_3 : decode cX6_judge 3 = .ok (.iload_n 3, 1) := by decide +kernel
theorem dX6_judge_4 : decode cX6_judge 4 = .ok (.iload 4, 2) := by decide +kernel
theorem dX6_judge_6 : decode cX6_judge 6 = .ok (.iload 5, 2) := by decide +kernel
theorem dX6_judge_8 : decode cX6_judge 8 = .ok (.invokevirtual 256, 3) := by decide +kernel
theorem dX6_judge_11 : decode cX6_judge 11 = .ok (.istore 6, 2) := by decide +kernel
theorem dX6_judge_13 : decode cX6_judge 13 = .ok (.iload 6, 2) := by decide +kernel
theorem dX6_judge_15 : decode cX6_judge 15 = .ok (.ifCond .eq 10, 3) := by decide +kernel
theorem dX6_judge_18 : decode cX6_judge 18 = .ok (.aload_n 0, 1) := by decide +kernel
theorem dX6_judge_19 : decode cX6_judge 19 = .ok (.iload 6, 2) := by decide +kernel
theorem dX6_judge_21 : decode cX6_judge 21 = .ok (.invokevirtual 70, 3) := by decide +kernel
theorem dX6_judge_24 : decode cX6_judge 24 = .ok (.ireturn, 1) := by decide +kernel
theorem dX6_land_0 : decode cX6_land 0 = .ok (.aload_n 0, 1) := by decide +kernel
theorem dX6_land_1 : decode cX6_land 1 = .ok (.getfield 51, 3) := by decide +kernel
theorem dX6_land_4 : decode cX6_land 4 = .ok (.invokevirtual 177, 3) := by decide +kernel
theorem dX6_land_7 : decode cX6_land 7 = .ok (.istore_n 1, 1) := by decide +kernel
theorem dX6_land_8 : decode cX6_land 8 = .ok (.aload_n 0, 1) := by decide +kernel
theorem dX6_land_9 : decode cX6_land 9 = .ok (.getfield 42, 3) := by decide +kernel
theorem dX6_land_12 : decode cX6_land 12 = .ok (.iconst 0, 1) := by decide +kernel
theorem dX6_land_13 : decode cX6_land 13 = .ok (.putfield 171, 3) := by decide +kernel
theorem dX6_land_16 : decode cX6_land 16 = .ok (.aload_n 0, 1) := by decide +kernel
theorem dX6_land_17 : decode cX6_land 17 = .ok (.getfield 42, 3) := by decide +kernel
theorem dX6_land_20 : decode cX6_land 20 = .ok (.getfield 181, 3) := by decide +kernel
theorem dX6_land_23 : decode cX6_land 23 = .ok (.iconst (-1), 1) := by decide +kernel
theorem dX6_land_24 : decode cX6_land 24 = .ok (.if_icmp .eq 21, 3) := by decide +kernel
theorem dX6_land_27 : decode cX6_land 27 = .ok (.aload_n 0, 1) := by decide +kernel
theorem dX6_land_28 : decode cX6_land 28 = .ok (.bipush (-2), 2) := by decide +kernel
theorem dX6_land_30 : decode cX6_land 30 = .ok (.invokevirtual 70, 3) := by decide +kernel
theorem dX6_land_33 : decode cX6_land 33 = .ok (.pop, 1) := by decide +kernel
theorem dX6_land_34 : decode cX6_land 34 = .ok (.bipush (-20), 2) := by decide +kernel
theorem dX6_land_36 : decode cX6_land 36 = .ok (.aload_n 0, 1) := by decide +kernel
theorem dX6_land_37 : decode cX6_land 37 = .ok (.getfield 42, 3) := by decide +kernel
theorem dX6_land_40 : decode cX6_land 40 = .ok (.getfield 181, 3) := by decide +kernel
theorem dX6_land_43 : decode cX6_land 43 = .ok (.isub, 1) := by decide +kernel
theorem dX6_land_44 : decode cX6_land 44 = .ok (.ireturn, 1) := by decide +kernel
theorem dX6_length_0 : decode cX6_length 0 = .ok (.aload_n 0, 1) := by decide +kernel
theorem dX6_length_1 : decode cX6_length 1 = .ok (.iload_n 1, 1) := by decide +kernel
theorem dX6_length_2 : decode cX6_length 2 = .ok (.invokevirtual 194, 3) := by decide +kernel
theorem dX6_length_5 : decode cX6_length 5 = .ok (.ifCond .ne 10, 3) := by decide +kernel
theorem dX6_length_8 : decode cX6_length 8 = .ok (.aload_n 0, 1) := by decide +kernel
theorem dX6_length_9 : decode cX6_length 9 = .ok (.bipush (-2), 2) := by decide +kernel
theorem dX6_length_11 : decode cX6_length 11 = .ok (.invokevirtual 70, 3) := by decide +kernel
theorem dX6_length_14 : decode cX6_length 14 = .ok (.ireturn, 1) := by decide +kernel
theorem dX6_most_0 : decode cX6_most 0 = .ok (.aload_n 0, 1) := by decide +kernel
theorem dX6_most_1 : decode cX6_most 1 = .ok (.iload_n 1, 1) := by decide +kernel
theorem dX6_most_2 : decode cX6_most 2 = .ok (.invokevirtual 194, 3) := by decide +kernel
theorem dX6_most_5 : decode cX6_most 5 = .ok (.ifCond .eq 17, 3) := by decide +kernel
theorem dX6_most_22 : decode cX6_most 22 = .ok (.aload_n 0, 1) := by decide +kernel
theorem dX6_most_23 : decode cX6_most 23 = .ok (.bipush (-2), 2) := by decide +kernel
theorem dX6_most_25 : decode cX6_most 25 = .ok (.invokevirtual 70, 3) := by decide +kernel
theorem dX6_most_28 : decode cX6_most 28 = .ok (.ireturn, 1) := by decide +kernel
theorem dX6_needs_0 : decode cX6_needs 0 = .ok (.aload_n 0, 1) := by decide +kernel
theorem dX6_needs_1 : decode cX6_needs 1 = .ok (.iload_n 1, 1) := by decide +kernel
theorem dX6_needs_2 : decode cX6_needs 2 = .ok (.iload_n 2, 1) := by decide +kernel
theorem dX6_needs_3 : decode cX6_needs 3 = .ok (.invokevirtual 200, 3) := by decide +kernel
theorem dX6_needs_6 : decode cX6_needs 6 = .ok (.ifCond .eq 11, 3) := by decide +kernel
theorem dX6_needs_17 : decode cX6_needs 17 = .ok (.aload_n 0, 1) := by decide +kernel
theorem dX6_needs_18 : decode cX6_needs 18 = .ok (.bipush (-2), 2) := by decide +kernel
theorem dX6_needs_20 : decode cX6_needs 20 = .ok (.invokevirtual 70, 3) := by decide +kernel
theorem dX6_needs_23 : decode cX6_needs 23 = .ok (.ireturn, 1) := by decide +kernel
theorem dX6_part_0 : decode cX6_part 0 = .ok (.iload_n 1, 1) := by decide +kernel
theorem dX6_part_1 : decode cX6_part 1 = .ok (.iconst 1, 1) := by decide +kernel
theorem dX6_part_2 : decode cX6_part 2 = .ok (.bipush 99, 2) := by decide +kernel
theorem dX6_part_4 : decode cX6_part 4 = .ok (.invokestatic 66, 3) := by decide +kernel
theorem dX6_part_7 : decode cX6_part 7 = .ok (.ifCond .eq 13, 3) := by decide +kernel
theorem dX6_part_10 : decode cX6_part 10 = .ok (.iload_n 2, 1) := by decide +kernel
theorem dX6_part_11 : decode cX6_part 11 = .ok (.iconst 0, 1) := by decide +kernel
theorem dX6_part_12 : decode cX6_part 12 = .ok (.bipush 99, 2) := by decide +kernel
theorem dX6_part_14 : decode cX6_part 14 = .ok (.invokestatic 66, 3) := by decide +kernel
theorem dX6_part_17 : decode cX6_part 17 = .ok (.ifCond .ne 10, 3) := by decide +kernel
theorem dX6_part_20 : decode cX6_part 20 = .ok (.aload_n 0, 1) := by decide +kernel
theorem dX6_part_21 : decode cX6_part 21 = .ok (.bipush (-2), 2) := by decide +kernel
theorem dX6_part_23 : decode cX6_part 23 = .ok (.invokevirtual 70, 3) := by decide +kernel
theorem dX6_part_26 : decode cX6_part 26 = .ok (.ireturn, 1) := by decide +kernel
theorem dX6_part_27 : decode cX6_part 27 = .ok (.aload_n 0, 1) := by decide +kernel
theorem dX6_part_28 : decode cX6_part 28 = .ok (.getfield 10, 3) := by decide +kernel
theorem dX6_part_31 : decode cX6_part 31 = .ok (.iconst 3, 1) := by decide +kernel
theorem dX6_part_32 : decode cX6_part 32 = .ok (.invokevirtual 129, 3) := by decide +kernel
theorem dX6_part_35 : decode cX6_part 35 = .ok (.ifCond .ne 10, 3) := by decide +kernel
theorem dX6_part_45 : decode cX6_part 45 = .ok (.aload_n 0, 1) := by decide +kernel
theorem dX6_part_46 : decode cX6_part 46 = .ok (.getfield 10, 3) := by decide +kernel
theorem dX6_part_49 : decode cX6_part 49 = .ok (.iload_n 1, 1) := by decide +kernel
theorem dX6_part_50 : decode cX6_part 50 = .ok (.iload_n 2, 1) := by decide +kernel
theorem dX6_part_51 : decode cX6_part 51 = .ok (.invokevirtual 150, 3) := by decide +kernel
theorem dX6_part_54 : decode cX6_part 54 = .ok (.ireturn, 1) := by decide +kernel
theorem dX6_prop_0 : decode cX6_prop 0 = .ok (.aload_n 0, 1) := by decide +kernel
theorem dX6_prop_1 : decode cX6_prop 1 = .ok (.iload_n 1, 1) := by decide +kernel
theorem dX6_prop_2 : decode cX6_prop 2 = .ok (.invokevirtual 112, 3) := by decide +kernel
theorem dX6_prop_5 : decode cX6_prop 5 = .ok (.ifCond .eq 25, 3) := by decide +kernel
theorem dX6_prop_30 : decode cX6_prop 30 = .ok (.aload_n 0, 1) := by decide +kernel
theorem dX6_prop_31 : decode cX6_prop 31 = .ok (.bipush (-2), 2) := by decide +kernel
theorem dX6_prop_33 : decode cX6_prop 33 = .ok (.invokevirtual 70, 3) := by decide +kernel
theorem dX6_prop_36 : decode cX6_prop 36 = .ok (.ireturn, 1) := by decide +kernel
theorem dX6_reach_0 : decode cX6_reach 0 = .ok (.aload_n 0, 1) := by decide +kernel
theorem dX6_reach_1 : decode cX6_reach 1 = .ok (.iload_n 1, 1) := by decide +kernel
theorem dX6_reach_2 : decode cX6_reach 2 = .ok (.iload_n 2, 1) := by decide +kernel
theorem dX6_reach_3 : decode cX6_reach 3 = .ok (.invokevirtual 200, 3) := by decide +kernel
theorem dX6_reach_6 : decode cX6_reach 6 = .ok (.ifCond .eq 10, 3) := by decide +kernel
theorem dX6_reach_16 : decode cX6_reach 16 = .ok (.aload_n 0, 1) := by decide +kernel
theorem dX6_reach_17 : decode cX6_reach 17 = .ok (.bipush (-2), 2) := by decide +kernel
theorem dX6_reach_19 : decode cX6_reach 19 = .ok (.invokevirtual 70, 3) := by decide +kernel
theorem dX6_reach_22 : decode cX6_reach 22 = .ok (.ireturn, 1) := by decide +kernel
theorem dX6_refuse_0 : decode cX6_refuse 0 = .ok (.bipush (-2), 2) := by decide +kernel
theorem dX6_refuse_2 : decode cX6_refuse 2 = .ok (.iload_n 1, 1) := by decide +kernel
theorem dX6_refuse_3 : decode cX6_refuse 3 = .ok (.isub, 1) := by decide +kernel
theorem dX6_refuse_4 : decode cX6_refuse 4 = .ok (.istore_n 2, 1) := by decide +kernel
theorem dX6_refuse_5 : decode cX6_refuse 5 = .ok (.iload_n 2, 1) := by decide +kernel
theorem dX6_refuse_6 : decode cX6_refuse 6 = .ok (.iconst 0, 1) := by decide +kernel
theorem dX6_refuse_7 : decode cX6_refuse 7 = .ok (.iconst 4, 1) := by decide +kernel
theorem dX6_refuse_8 : decode cX6_refuse 8 = .ok (.invokestatic 66, 3) := by decide +kernel
theorem dX6_refuse_11 : decode cX6_refuse 11 = .ok (.ifCond .eq 13, 3) := by decide +kernel
theorem dX6_refuse_14 : decode cX6_refuse 14 = .ok (.aload_n 0, 1) := by decide +kernel
theorem dX6_refuse_15 : decode cX6_refuse 15 = .ok (.getfield 55, 3) := by decide +kernel
theorem dX6_refuse_18 : decode cX6_refuse 18 = .ok (.iload_n 2, 1) := by decide +kernel
theorem dX6_refuse_19 : decode cX6_refuse 19 = .ok (.dup2, 1) := by decide +kernel
theorem dX6_refuse_20 : decode cX6_refuse 20 = .ok (.iaload, 1) := by decide +kernel
theorem dX6_refuse_21 : decode cX6_refuse 21 = .ok (.iconst 1, 1) := by decide +kernel
theorem dX6_refuse_22 : decode cX6_refuse 22 = .ok (.iadd, 1) := by decide +kernel
theorem dX6_refuse_23 : decode cX6_refuse 23 = .ok (.iastore, 1) := by decide +kernel
theorem dX6_refuse_24 : decode cX6_refuse 24 = .ok (.iload_n 1, 1) := by decide +kernel
theorem dX6_refuse_25 : decode cX6_refuse 25 = .ok (.ireturn, 1) := by decide +kernel
theorem dX6_road_0 : decode cX6_road 0 = .ok (.iload_n 1, 1) := by decide +kernel
theorem dX6_road_1 : decode cX6_road 1 = .ok (.invokestatic 126, 3) := by decide +kernel
theorem dX6_road_4 : decode cX6_road 4 = .ok (.ifCond .eq 58, 3) := by decide +kernel
theorem dX6_road_7 : decode cX6_road 7 = .ok (.iload_n 2, 1) := by decide +kernel
theorem dX6_road_8 : decode cX6_road 8 = .ok (.invokestatic 126, 3) := by decide +kernel
theorem dX6_road_11 : decode cX6_road 11 = .ok (.ifCond .eq 51, 3) := by decide +kernel
theorem dX6_road_14 : decode cX6_road 14 = .ok (.iload_n 1, 1) := by decide +kernel
theorem dX6_road_15 : decode cX6_road 15 = .ok (.iload_n 2, 1) := by decide +kernel
theorem dX6_road_16 : decode cX6_road 16 = .ok (.if_icmp .eq 46, 3) := by decide +kernel
theorem dX6_road_19 : decode cX6_road 19 = .ok (.iload_n 3, 1) := by decide +kernel
theorem dX6_road_20 : decode cX6_road 20 = .ok (.iconst 1, 1) := by decide +kernel
theorem dX6_road_21 : decode cX6_road 21 = .ok (.bipush 60, 2) := by decide +kernel
theorem dX6_road_23 : decode cX6_road 23 = .ok (.invokestatic 66, 3) := by decide +kernel
theorem dX6_road_26 : decode cX6_road 26 = .ok (.ifCond .eq 36, 3) := by decide +kernel
theorem dX6_road_29 : decode cX6_road 29 = .ok (.iload 4, 2) := by decide +kernel
theorem dX6_road_31 : decode cX6_road 31 = .ok (.iconst 0, 1) := by decide +kernel
theorem dX6_road_32 : decode cX6_road 32 = .ok (.bipush 9, 2) := by decide +kernel
theorem dX6_road_34 : decode cX6_road 34 = .ok (.invokestatic 66, 3) := by decide +kernel
theorem dX6_road_37 : decode cX6_road 37 = .ok (.ifCond .eq 25, 3) := by decide +kernel
theorem dX6_road_40 : decode cX6_road 40 = .ok (.iload 5, 2) := by decide +kernel
theorem dX6_road_42 : decode cX6_road 42 = .ok (.iconst 1, 1) := by decide +kernel
theorem dX6_road_43 : decode cX6_road 43 = .ok (.bipush 99, 2) := by decide +kernel
theorem dX6_road_45 : decode cX6_road 45 = .ok (.invokestatic 66, 3) := by decide +kernel
theorem dX6_road_48 : decode cX6_road 48 = .ok (.ifCond .eq 14, 3) := by decide +kernel
theorem dX6_road_51 : decode cX6_road 51 = .ok (.iload 6, 2) := by decide +kernel
theorem dX6_road_53 : decode cX6_road 53 = .ok (.iconst 0, 1) := by decide +kernel
theorem dX6_road_54 : decode cX6_road 54 = .ok (.bipush 15, 2) := by decide +kernel
theorem dX6_road_56 : decode cX6_road 56 = .ok (.invokestatic 66, 3) := by decide +kernel
theorem dX6_road_59 : decode cX6_road 59 = .ok (.ifCond .ne 10, 3) := by decide +kernel
theorem dX6_road_62 : decode cX6_road 62 = .ok (.aload_n 0, 1) := by decide +kernel
theorem dX6_road_63 : decode cX6_road 63 = .ok (.bipush (-2), 2) := by decide +kernel
theorem dX6_road_65 : decode cX6_road 65 = .ok (.invokevirtual 70, 3) := by decide +kernel
theorem dX6_road_68 : decode cX6_road 68 = .ok (.ireturn, 1) := by decide +kernel
theorem dX6_road_69 : decode cX6_road 69 = .ok (.aload_n 0, 1) := by decide +kernel
theorem dX6_road_70 : decode cX6_road 70 = .ok (.getfield 10, 3) := by decide +kernel
theorem dX6_road_73 : decode cX6_road 73 = .ok (.iconst 0, 1) := by decide +kernel
theorem dX6_road_74 : decode cX6_road 74 = .ok (.invokevirtual 129, 3) := by decide +kernel
theorem dX6_road_77 : decode cX6_road 77 = .ok (.ifCond .ne 10, 3) := by decide +kernel
theorem dX6_road_87 : decode cX6_road 87 = .ok (.aload_n 0, 1) := by decide +kernel
theorem dX6_road_88 : decode cX6_road 88 = .ok (.getfield 10, 3) := by decide +kernel
theorem dX6_road_91 : decode cX6_road 91 = .ok (.iload_n 1, 1) := by decide +kernel
theorem dX6_road_92 : decode cX6_road 92 = .ok (.iload_n 2, 1) := by decide +kernel
theorem dX6_road_93 : decode cX6_road 93 = .ok (.iload_n 3, 1) := by decide +kernel
theorem dX6_road_94 : decode cX6_road 94 = .ok (.iload 4, 2) := by decide +kernel
theorem dX6_road_96 : decode cX6_road 96 = .ok (.iload 5, 2) := by decide +kernel
theorem dX6_road_98 : decode cX6_road 98 = .ok (.iload 6, 2) := by decide +kernel
theorem dX6_road_100 : decode cX6_road 100 = .ok (.invokevirtual 132, 3) := by decide +kernel
theorem dX6_road_103 : decode cX6_road 103 = .ok (.ireturn, 1) := by decide +kernel
theorem dX6_roadOf_0 : decode cX6_roadOf 0 = .ok (.aload_n 0, 1) := by decide +kernel
theorem dX6_roadOf_1 : decode cX6_roadOf 1 = .ok (.iload_n 1, 1) := by decide +kernel
theorem dX6_roadOf_2 : decode cX6_roadOf 2 = .ok (.invokevirtual 136, 3) := by decide +kernel
theorem dX6_roadOf_5 : decode cX6_roadOf 5 = .ok (.ifCond .eq 13, 3) := by decide +kernel
theorem dX6_roadOf_18 : decode cX6_roadOf 18 = .ok (.aload_n 0, 1) := by decide +kernel
theorem dX6_roadOf_19 : decode cX6_roadOf 19 = .ok (.bipush (-2), 2) := by decide +kernel
theorem dX6_roadOf_21 : decode cX6_roadOf 21 = .ok (.invokevirtual 70, 3) := by decide +kernel
theorem dX6_roadOf_24 : decode cX6_roadOf 24 = .ok (.ireturn, 1) := by decide +kernel
theorem dX6_says_0 : decode cX6_says 0 = .ok (.iload_n 1, 1) := by decide +kernel
theorem dX6_says_1 : decode cX6_says 1 = .ok (.invokestatic 62, 3) := by decide +kernel
theorem dX6_says_4 : decode cX6_says 4 = .ok (.ifCond .eq 12, 3) := by decide +kernel
theorem dX6_says_7 : decode cX6_says 7 = .ok (.iload_n 2, 1) := by decide +kernel
theorem dX6_says_8 : decode cX6_says 8 = .ok (.iconst 0, 1) := by decide +kernel
theorem dX6_says_9 : decode cX6_says 9 = .ok (.iconst 5, 1) := by decide +kernel
theorem dX6_says_10 : decode cX6_says 10 = .ok (.invokestatic 66, 3) := by decide +kernel
theorem dX6_says_13 : decode cX6_says 13 = .ok (.ifCond .ne 10, 3) := by decide +kernel
theorem dX6_says_16 : decode cX6_says 16 = .ok (.aload_n 0, 1) := by decide +kernel
theorem dX6_says_17 : decode cX6_says 17 = .ok (.bipush (-2), 2) := by decide +kernel
theorem dX6_says_19 : decode cX6_says 19 = .ok (.invokevirtual 70, 3) := by decide +kernel
theorem dX6_says_22 : decode cX6_says 22 = .ok (.ireturn, 1) := by decide +kernel
theorem dX6_says_23 : decode cX6_says 23 = .ok (.aload_n 0, 1) := by decide +kernel
theorem dX6_says_24 : decode cX6_says 24 = .ok (.getfield 35, 3) := by decide +kernel
theorem dX6_says_27 : decode cX6_says 27 = .ok (.iload_n 1, 1) := by decide +kernel
theorem dX6_says_28 : decode cX6_says 28 = .ok (.invokevirtual 102, 3) := by decide +kernel
theorem dX6_says_31 : decode cX6_says 31 = .ok (.ifCond .eq 10, 3) := by decide +kernel
theorem dX6_says_41 : decode cX6_says 41 = .ok (.aload_n 0, 1) := by decide +kernel
theorem dX6_says_42 : decode cX6_says 42 = .ok (.getfield 35, 3) := by decide +kernel
theorem dX6_says_45 : decode cX6_says 45 = .ok (.getfield 109, 3) := by decide +kernel
theorem dX6_says_48 : decode cX6_says 48 = .ok (.iload_n 1, 1) := by decide +kernel
theorem dX6_says_49 : decode cX6_says 49 = .ok (.iaload, 1) := by decide +kernel
theorem dX6_says_50 : decode cX6_says 50 = .ok (.bipush 10, 2) := by decide +kernel
theorem dX6_says_52 : decode cX6_says 52 = .ok (.isub, 1) := by decide +kernel
theorem dX6_says_53 : decode cX6_says 53 = .ok (.istore_n 3, 1) := by decide +kernel
theorem dX6_says_54 : decode cX6_says 54 = .ok (.aload_n 0, 1) := by decide +kernel
theorem dX6_says_55 : decode cX6_says 55 = .ok (.iload_n 3, 1) := by decide +kernel
theorem dX6_says_56 : decode cX6_says 56 = .ok (.invokevirtual 112, 3) := by decide +kernel
theorem dX6_says_59 : decode cX6_says 59 = .ok (.ifCond .ne 10, 3) := by decide +kernel
theorem dX6_says_62 : decode cX6_says 62 = .ok (.aload_n 0, 1) := by decide +kernel
theorem dX6_says_63 : decode cX6_says 63 = .ok (.bipush (-4), 2) := by decide +kernel
theorem dX6_says_65 : decode cX6_says 65 = .ok (.invokevirtual 70, 3) := by decide +kernel
theorem dX6_says_68 : decode cX6_says 68 = .ok (.ireturn, 1) := by decide +kernel
theorem dX6_set_0 : decode cX6_set 0 = .ok (.aload_n 0, 1) := by decide +kernel
theorem dX6_set_1 : decode cX6_set 1 = .ok (.iload_n 1, 1) := by decide +kernel
theorem dX6_set_2 : decode cX6_set 2 = .ok (.invokevirtual 78, 3) := by decide +kernel
theorem dX6_set_5 : decode cX6_set 5 = .ok (.istore 5, 2) := by decide +kernel
theorem dX6_set_7 : decode cX6_set 7 = .ok (.iload 5, 2) := by decide +kernel
theorem dX6_set_9 : decode cX6_set 9 = .ok (.ifCond .eq 10, 3) := by decide +kernel
theorem dX6_set_12 : decode cX6_set 12 = .ok (.aload_n 0, 1) := by decide +kernel
theorem dX6_set_13 : decode cX6_set 13 = .ok (.iload 5, 2) := by decide +kernel
theorem dX6_set_15 : decode cX6_set 15 = .ok (.invokevirtual 70, 3) := by decide +kernel
theorem dX6_set_18 : decode cX6_set 18 = .ok (.ireturn, 1) := by decide +kernel
theorem dX6_show_0 : decode cX6_show 0 = .ok (.iload_n 1, 1) := by decide +kernel
theorem dX6_show_1 : decode cX6_show 1 = .ok (.invokestatic 62, 3) := by decide +kernel
theorem dX6_show_4 : decode cX6_show 4 = .ok (.ifCond .eq 16, 3) := by decide +kernel
theorem dX6_show_7 : decode cX6_show 7 = .ok (.iload_n 2, 1) := by decide +kernel
theorem dX6_show_8 : decode cX6_show 8 = .ok (.iconst (-1), 1) := by decide +kernel
theorem dX6_show_9 : decode cX6_show 9 = .ok (.if_icmp .eq 18, 3) := by decide +kernel
theorem dX6_show_12 : decode cX6_show 12 = .ok (.aload_n 0, 1) := by decide +kernel
theorem dX6_show_13 : decode cX6_show 13 = .ok (.iload_n 2, 1) := by decide +kernel
theorem dX6_show_14 : decode cX6_show 14 = .ok (.invokevirtual 112, 3) := by decide +kernel
theorem dX6_show_17 : decode cX6_show 17 = .ok (.ifCond .ne 10, 3) := by decide +kernel
theorem dX6_show_20 : decode cX6_show 20 = .ok (.aload_n 0, 1) := by decide +kernel
theorem dX6_show_21 : decode cX6_show 21 = .ok (.bipush (-2), 2) := by decide +kernel
theorem dX6_show_23 : decode cX6_show 23 = .ok (.invokevirtual 70, 3) := by decide +kernel
theorem dX6_show_26 : decode cX6_show 26 = .ok (.ireturn, 1) := by decide +kernel
theorem dX6_show_27 : decode cX6_show 27 = .ok (.aload_n 0, 1) := by decide +kernel
theorem dX6_show_28 : decode cX6_show 28 = .ok (.getfield 35, 3) := by decide +kernel
theorem dX6_show_31 : decode cX6_show 31 = .ok (.iload_n 1, 1) := by decide +kernel
theorem dX6_show_32 : decode cX6_show 32 = .ok (.iload_n 2, 1) := by decide +kernel
theorem dX6_show_33 : decode cX6_show 33 = .ok (.invokevirtual 115, 3) := by decide +kernel
theorem dX6_show_36 : decode cX6_show 36 = .ok (.iconst 1, 1) := by decide +kernel
theorem dX6_show_37 : decode cX6_show 37 = .ok (.ireturn, 1) := by decide +kernel
theorem dX6_shut_0 : decode cX6_shut 0 = .ok (.aload_n 0, 1) := by decide +kernel
theorem dX6_shut_1 : decode cX6_shut 1 = .ok (.iload_n 1, 1) := by decide +kernel
theorem dX6_shut_2 : decode cX6_shut 2 = .ok (.invokevirtual 136, 3) := by decide +kernel
theorem dX6_shut_5 : decode cX6_shut 5 = .ok (.ifCond .ne 10, 3) := by decide +kernel
theorem dX6_shut_8 : decode cX6_shut 8 = .ok (.aload_n 0, 1) := by decide +kernel
theorem dX6_shut_9 : decode cX6_shut 9 = .ok (.bipush (-2), 2) := by decide +kernel
theorem dX6_shut_11 : decode cX6_shut 11 = .ok (.invokevirtual 70, 3) := by decide +kernel
theorem dX6_shut_14 : decode cX6_shut 14 = .ok (.ireturn, 1) := by decide +kernel
theorem dX6_soonest_0 : decode cX6_soonest 0 = .ok (.aload_n 0, 1) := by decide +kernel
theorem dX6_soonest_1 : decode cX6_soonest 1 = .ok (.iload_n 1, 1) := by decide +kernel
theorem dX6_soonest_2 : decode cX6_soonest 2 = .ok (.iload_n 2, 1) := by decide +kernel
theorem dX6_soonest_3 : decode cX6_soonest 3 = .ok (.iload_n 3, 1) := by decide +kernel
theorem dX6_soonest_4 : decode cX6_soonest 4 = .ok (.iload 4, 2) := by decide +kernel
theorem dX6_soonest_6 : decode cX6_soonest 6 = .ok (.invokevirtual 238, 3) := by decide +kernel
theorem dX6_soonest_9 : decode cX6_soonest 9 = .ok (.ifCond .ne 10, 3) := by decide +kernel
theorem dX6_soonest_12 : decode cX6_soonest 12 = .ok (.aload_n 0, 1) := by decide +kernel
theorem dX6_soonest_13 : decode cX6_soonest 13 = .ok (.bipush (-2), 2) := by decide +kernel
theorem dX6_soonest_15 : decode cX6_soonest 15 = .ok (.invokevirtual 70, 3) := by decide +kernel
theorem dX6_soonest_18 : decode cX6_soonest 18 = .ok (.ireturn, 1) := by decide +kernel
theorem dX6_stand_0 : decode cX6_stand 0 = .ok (.aload_n 0, 1) := by decide +kernel
theorem dX6_stand_1 : decode cX6_stand 1 = .ok (.iload_n 1, 1) := by decide +kernel
theorem dX6_stand_2 : decode cX6_stand 2 = .ok (.invokevirtual 112, 3) := by decide +kernel
theorem dX6_stand_5 : decode cX6_stand 5 = .ok (.ifCond .eq 12, 3) := by decide +kernel
theorem dX6_stand_17 : decode cX6_stand 17 = .ok (.aload_n 0, 1) := by decide +kernel
theorem dX6_stand_18 : decode cX6_stand 18 = .ok (.bipush (-2), 2) := by decide +kernel
theorem dX6_stand_20 : decode cX6_stand 20 = .ok (.invokevirtual 70, 3) := by decide +kernel
theorem dX6_stand_23 : decode cX6_stand 23 = .ok (.ireturn, 1) := by decide +kernel
theorem dX6_status_0 : decode cX6_status 0 = .ok (.iload_n 1, 1) := by decide +kernel
theorem dX6_status_1 : decode cX6_status 1 = .ok (.iconst 0, 1) := by decide +kernel
theorem dX6_status_2 : decode cX6_status 2 = .ok (.iconst 3, 1) := by decide +kernel
theorem dX6_status_3 : decode cX6_status 3 = .ok (.invokestatic 66, 3) := by decide +kernel
theorem dX6_status_6 : decode cX6_status 6 = .ok (.ifCond .eq 13, 3) := by decide +kernel
theorem dX6_status_9 : decode cX6_status 9 = .ok (.aload_n 0, 1) := by decide +kernel
theorem dX6_status_10 : decode cX6_status 10 = .ok (.getfield 10, 3) := by decide +kernel
theorem dX6_status_13 : decode cX6_status 13 = .ok (.getfield 273, 3) := by decide +kernel
theorem dX6_status_16 : decode cX6_status 16 = .ok (.iload_n 1, 1) := by decide +kernel
theorem dX6_status_17 : decode cX6_status 17 = .ok (.iaload, 1) := by decide +kernel
theorem dX6_status_18 : decode cX6_status 18 = .ok (.ireturn, 1) := by decide +kernel
theorem dX6_status_19 : decode cX6_status 19 = .ok (.iload_n 1, 1) := by decide +kernel
theorem dX6_status_20 : decode cX6_status 20 = .ok (.bipush 12, 2) := by decide +kernel
theorem dX6_status_22 : decode cX6_status 22 = .ok (.bipush 16, 2) := by decide +kernel
theorem dX6_status_24 : decode cX6_status 24 = .ok (.invokestatic 66, 3) := by decide +kernel
theorem dX6_status_27 : decode cX6_status 27 = .ok (.ifCond .eq 13, 3) := by decide +kernel
theorem dX6_status_30 : decode cX6_status 30 = .ok (.aload_n 0, 1) := by decide +kernel
theorem dX6_status_31 : decode cX6_status 31 = .ok (.getfield 55, 3) := by decide +kernel
theorem dX6_status_34 : decode cX6_status 34 = .ok (.iload_n 1, 1) := by decide +kernel
theorem dX6_status_35 : decode cX6_status 35 = .ok (.bipush 12, 2) := by decide +kernel
theorem dX6_status_37 : decode cX6_status 37 = .ok (.isub, 1) := by decide +kernel
theorem dX6_status_38 : decode cX6_status 38 = .ok (.iaload, 1) := by decide +kernel
theorem dX6_status_39 : decode cX6_status 39 = .ok (.ireturn, 1) := by decide +kernel
theorem dX6_status_40 : decode cX6_status 40 = .ok (.iload_n 1, 1) := by decide +kernel
theorem dX6_status_41 : decode cX6_status 41 = .ok (.tableswitch 67 4 7 #[31, 39, 47, 57], 31) := by decide +kernel
theorem dX6_status_72 : decode cX6_status 72 = .ok (.aload_n 0, 1) := by decide +kernel
theorem dX6_status_73 : decode cX6_status 73 = .ok (.getfield 42, 3) := by decide +kernel
theorem dX6_status_76 : decode cX6_status 76 = .ok (.getfield 171, 3) := by decide +kernel
theorem dX6_status_79 : decode cX6_status 79 = .ok (.ireturn, 1) := by decide +kernel
theorem dX6_status_80 : decode cX6_status 80 = .ok (.aload_n 0, 1) := by decide +kernel
theorem dX6_status_81 : decode cX6_status 81 = .ok (.getfield 35, 3) := by decide +kernel
theorem dX6_status_84 : decode cX6_status 84 = .ok (.invokevirtual 320, 3) := by decide +kernel
theorem dX6_status_87 : decode cX6_status 87 = .ok (.ireturn, 1) := by decide +kernel
theorem dX6_status_88 : decode cX6_status 88 = .ok (.aload_n 0, 1) := by decide +kernel
theorem dX6_status_89 : decode cX6_status 89 = .ok (.getfield 10, 3) := by decide +kernel
theorem dX6_status_92 : decode cX6_status 92 = .ok (.bipush 7, 2) := by decide +kernel
theorem dX6_status_94 : decode cX6_status 94 = .ok (.invokevirtual 323, 3) := by decide +kernel
theorem dX6_status_97 : decode cX6_status 97 = .ok (.ireturn, 1) := by decide +kernel
theorem dX6_status_98 : decode cX6_status 98 = .ok (.aload_n 0, 1) := by decide +kernel
theorem dX6_status_99 : decode cX6_status 99 = .ok (.getfield 10, 3) := by decide +kernel
theorem dX6_status_102 : decode cX6_status 102 = .ok (.bipush 8, 2) := by decide +kernel
theorem dX6_status_104 : decode cX6_status 104 = .ok (.invokevirtual 323, 3) := by decide +kernel
theorem dX6_status_107 : decode cX6_status 107 = .ok (.ireturn, 1) := by decide +kernel
theorem dX6_status_108 : decode cX6_status 108 = .ok (.iconst (-1), 1) := by decide +kernel
theorem dX6_status_109 : decode cX6_status 109 = .ok (.ireturn, 1) := by decide +kernel
theorem dX6_step_0 : decode cX6_step 0 = .ok (.aload_n 0, 1) := by decide +kernel
theorem dX6_step_1 : decode cX6_step 1 = .ok (.getfield 10, 3) := by decide +kernel
theorem dX6_step_4 : decode cX6_step 4 = .ok (.getfield 301, 3) := by decide +kernel
theorem dX6_step_7 : decode cX6_step 7 = .ok (.astore_n 1, 1) := by decide +kernel
theorem dX6_step_8 : decode cX6_step 8 = .ok (.aload_n 0, 1) := by decide +kernel
theorem dX6_step_9 : decode cX6_step 9 = .ok (.getfield 10, 3) := by decide +kernel
theorem dX6_step_12 : decode cX6_step 12 = .ok (.getfield 304, 3) := by decide +kernel
theorem dX6_step_15 : decode cX6_step 15 = .ok (.ifCond .eq 12, 3) := by decide +kernel
theorem dX6_step_27 : decode cX6_step 27 = .ok (.aload_n 0, 1) := by decide +kernel
theorem dX6_step_28 : decode cX6_step 28 = .ok (.bipush (-5), 2) := by decide +kernel
theorem dX6_step_30 : decode cX6_step 30 = .ok (.invokevirtual 70, 3) := by decide +kernel
theorem dX6_step_33 : decode cX6_step 33 = .ok (.ireturn, 1) := by decide +kernel
theorem dX6_strain_0 : decode cX6_strain 0 = .ok (.aload_n 0, 1) := by decide +kernel
theorem dX6_strain_1 : decode cX6_strain 1 = .ok (.iload_n 1, 1) := by decide +kernel
theorem dX6_strain_2 : decode cX6_strain 2 = .ok (.iload_n 2, 1) := by decide +kernel
theorem dX6_strain_3 : decode cX6_strain 3 = .ok (.invokevirtual 200, 3) := by decide +kernel
theorem dX6_strain_6 : decode cX6_strain 6 = .ok (.ifCond .eq 11, 3) := by decide +kernel
theorem dX6_strain_17 : decode cX6_strain 17 = .ok (.aload_n 0, 1) := by decide +kernel
theorem dX6_strain_18 : decode cX6_strain 18 = .ok (.bipush (-2), 2) := by decide +kernel
theorem dX6_strain_20 : decode cX6_strain 20 = .ok (.invokevirtual 70, 3) := by decide +kernel
theorem dX6_strain_23 : decode cX6_strain 23 = .ok (.ireturn, 1) := by decide +kernel
theorem dX6_told_0 : decode cX6_told 0 = .ok (.iload 6, 2) := by decide +kernel
theorem dX6_told_2 : decode cX6_told 2 = .ok (.iconst 0, 1) := by decide +kernel
theorem dX6_told_3 : decode cX6_told 3 = .ok (.iconst 3, 1) := by decide +kernel
theorem dX6_told_4 : decode cX6_told 4 = .ok (.invokestatic 66, 3) := by decide +kernel
theorem dX6_told_7 : decode cX6_told 7 = .ok (.ifCond .eq 17, 3) := by decide +kernel
theorem dX6_told_10 : decode cX6_told 10 = .ok (.aload_n 0, 1) := by decide +kernel
theorem dX6_told_11 : decode cX6_told 11 = .ok (.iload_n 1, 1) := by decide +kernel
theorem dX6_told_12 : decode cX6_told 12 = .ok (.iload_n 2, 1) := by decide +kernel
theorem dX6_told_13 : decode cX6_told 13 = .ok (.iload_n 3, 1) := by decide +kernel
theorem dX6_told_14 : decode cX6_told 14 = .ok (.iload 4, 2) := by decide +kernel
theorem dX6_told_16 : decode cX6_told 16 = .ok (.iload 5, 2) := by decide +kernel
theorem dX6_told_18 : decode cX6_told 18 = .ok (.invokevirtual 256, 3) := by decide +kernel
theorem dX6_told_21 : decode cX6_told 21 = .ok (.goto 5, 3) := by decide +kernel
theorem dX6_told_24 : decode cX6_told 24 = .ok (.bipush (-2), 2) := by decide +kernel
theorem dX6_told_26 : decode cX6_told 26 = .ok (.istore 7, 2) := by decide +kernel
theorem dX6_told_28 : decode cX6_told 28 = .ok (.iload 7, 2) := by decide +kernel
theorem dX6_told_30 : decode cX6_told 30 = .ok (.ifCond .eq 10, 3) := by decide +kernel
theorem dX6_told_33 : decode cX6_told 33 = .ok (.aload_n 0, 1) := by decide +kernel
theorem dX6_told_34 : decode cX6_told 34 = .ok (.iload 7, 2) := by decide +kernel
theorem dX6_told_36 : decode cX6_told 36 = .ok (.invokevirtual 70, 3) := by decide +kernel
theorem dX6_told_39 : decode cX6_told 39 = .ok (.ireturn, 1) := by decide +kernel
theorem dX6_under_0 : decode cX6_under 0 = .ok (.iload_n 1, 1) := by decide +kernel
theorem dX6_under_1 : decode cX6_under 1 = .ok (.iconst 0, 1) := by decide +kernel
theorem dX6_under_2 : decode cX6_under 2 = .ok (.iconst 4, 1) := by decide +kernel
theorem dX6_under_3 : decode cX6_under 3 = .ok (.invokestatic 66, 3) := by decide +kernel
theorem dX6_under_6 : decode cX6_under 6 = .ok (.ifCond .ne 10, 3) := by decide +kernel
theorem dX6_under_9 : decode cX6_under 9 = .ok (.aload_n 0, 1) := by decide +kernel
theorem dX6_under_10 : decode cX6_under 10 = .ok (.bipush (-2), 2) := by decide +kernel
theorem dX6_under_12 : decode cX6_under 12 = .ok (.invokevirtual 70, 3) := by decide +kernel
theorem dX6_under_15 : decode cX6_under 15 = .ok (.ireturn, 1) := by decide +kernel
theorem dX6_under_16 : decode cX6_under 16 = .ok (.aload_n 0, 1) := by decide +kernel
theorem dX6_under_17 : decode cX6_under 17 = .ok (.getfield 10, 3) := by decide +kernel
theorem dX6_under_20 : decode cX6_under 20 = .ok (.getfield 304, 3) := by decide +kernel
theorem dX6_under_23 : decode cX6_under 23 = .ok (.ifCond .eq 15, 3) := by decide +kernel
theorem dX6_under_38 : decode cX6_under 38 = .ok (.aload_n 0, 1) := by decide +kernel
theorem dX6_under_39 : decode cX6_under 39 = .ok (.bipush (-5), 2) := by decide +kernel
theorem dX6_under_41 : decode cX6_under 41 = .ok (.invokevirtual 70, 3) := by decide +kernel
theorem dX6_under_44 : decode cX6_under 44 = .ok (.ireturn, 1) := by decide +kernel
theorem dX6_waggon_0 : decode cX6_waggon 0 = .ok (.iload_n 1, 1) := by decide +kernel
theorem dX6_waggon_1 : decode cX6_waggon 1 = .ok (.iconst 2, 1) := by decide +kernel
theorem dX6_waggon_2 : decode cX6_waggon 2 = .ok (.bipush 12, 2) := by decide +kernel
theorem dX6_waggon_4 : decode cX6_waggon 4 = .ok (.invokestatic 66, 3) := by decide +kernel
theorem dX6_waggon_7 : decode cX6_waggon 7 = .ok (.ifCond .eq 23, 3) := by decide +kernel
theorem dX6_waggon_10 : decode cX6_waggon 10 = .ok (.iload_n 2, 1) := by decide +kernel
theorem dX6_waggon_11 : decode cX6_waggon 11 = .ok (.iconst 1, 1) := by decide +kernel
theorem dX6_waggon_12 : decode cX6_waggon 12 = .ok (.bipush 9, 2) := by decide +kernel
theorem dX6_waggon_14 : decode cX6_waggon 14 = .ok (.invokestatic 66, 3) := by decide +kernel
theorem dX6_waggon_17 : decode cX6_waggon 17 = .ok (.ifCond .eq 13, 3) := by decide +kernel
theorem dX6_waggon_20 : decode cX6_waggon 20 = .ok (.iload_n 3, 1) := by decide +kernel
theorem dX6_waggon_21 : decode cX6_waggon 21 = .ok (.iconst 0, 1) := by decide +kernel
theorem dX6_waggon_22 : decode cX6_waggon 22 = .ok (.bipush 99, 2) := by decide +kernel
theorem dX6_waggon_24 : decode cX6_waggon 24 = .ok (.invokestatic 66, 3) := by decide +kernel
theorem dX6_waggon_27 : decode cX6_waggon 27 = .ok (.ifCond .ne 10, 3) := by decide +kernel
theorem dX6_waggon_30 : decode cX6_waggon 30 = .ok (.aload_n 0, 1) := by decide +kernel
theorem dX6_waggon_31 : decode cX6_waggon 31 = .ok (.bipush (-2), 2) := by decide +kernel
theorem dX6_waggon_33 : decode cX6_waggon 33 = .ok (.invokevirtual 70, 3) := by decide +kernel
theorem dX6_waggon_36 : decode cX6_waggon 36 = .ok (.ireturn, 1) := by decide +kernel
theorem dX6_waggon_37 : decode cX6_waggon 37 = .ok (.aload_n 0, 1) := by decide +kernel
theorem dX6_waggon_38 : decode cX6_waggon 38 = .ok (.getfield 10, 3) := by decide +kernel
theorem dX6_waggon_41 : decode cX6_waggon 41 = .ok (.iconst 2, 1) := by decide +kernel
theorem dX6_waggon_42 : decode cX6_waggon 42 = .ok (.invokevirtual 129, 3) := by decide +kernel
theorem dX6_waggon_45 : decode cX6_waggon 45 = .ok (.ifCond .ne 10, 3) := by decide +kernel
theorem dX6_waggon_55 : decode cX6_waggon 55 = .ok (.aload_n 0, 1) := by decide +kernel
theorem dX6_waggon_56 : decode cX6_waggon 56 = .ok (.getfield 10, 3) := by decide +kernel
theorem dX6_waggon_59 : decode cX6_waggon 59 = .ok (.iload_n 1, 1) := by decide +kernel
theorem dX6_waggon_60 : decode cX6_waggon 60 = .ok (.iload_n 2, 1) := by decide +kernel
theorem dX6_waggon_61 : decode cX6_waggon 61 = .ok (.iload_n 3, 1) := by decide +kernel
theorem dX6_waggon_62 : decode cX6_waggon 62 = .ok (.invokevirtual 146, 3) := by decide +kernel
theorem dX6_waggon_65 : decode cX6_waggon 65 = .ok (.ireturn, 1) := by decide +kernel
theorem dX6_whyNoRow_0 : decode cX6_whyNoRow 0 = .ok (.iload_n 1, 1) := by decide +kernel
theorem dX6_whyNoRow_1 : decode cX6_whyNoRow 1 = .ok (.invokestatic 62, 3) := by decide +kernel
theorem dX6_whyNoRow_4 : decode cX6_whyNoRow 4 = .ok (.ifCond .ne 6, 3) := by decide +kernel
theorem dX6_whyNoRow_7 : decode cX6_whyNoRow 7 = .ok (.bipush (-2), 2) := by decide +kernel
theorem dX6_whyNoRow_9 : decode cX6_whyNoRow 9 = .ok (.ireturn, 1) := by decide +kernel
theorem dX6_whyNoRow_10 : decode cX6_whyNoRow 10 = .ok (.aload_n 0, 1) := by decide +kernel
theorem dX6_whyNoRow_11 : decode cX6_whyNoRow 11 = .ok (.getfield 35, 3) := by decide +kernel
theorem dX6_whyNoRow_14 : decode cX6_whyNoRow 14 = .ok (.iload_n 1, 1) := by decide +kernel
theorem dX6_whyNoRow_15 : decode cX6_whyNoRow 15 = .ok (.invokevirtual 88, 3) := by decide +kernel
theorem dX6_whyNoRow_18 : decode cX6_whyNoRow 18 = .ok (.ifCond .eq 6, 3) := by decide +kernel
theorem dX6_whyNoRow_24 : decode cX6_whyNoRow 24 = .ok (.aload_n 0, 1) := by decide +kernel
theorem dX6_whyNoRow_25 : decode cX6_whyNoRow 25 = .ok (.getfield 35, 3) := by decide +kernel
theorem dX6_whyNoRow_28 : decode cX6_whyNoRow 28 = .ok (.iload_n 1, 1) := by decide +kernel
theorem dX6_whyNoRow_29 : decode cX6_whyNoRow 29 = .ok (.invokevirtual 95, 3) := by decide +kernel
theorem dX6_whyNoRow_32 : decode cX6_whyNoRow 32 = .ok (.ifCond .eq 8, 3) := by decide +kernel
theorem dX6_whyNoRow_35 : decode cX6_whyNoRow 35 = .ok (.bipush (-4), 2) := by decide +kernel
theorem dX6_whyNoRow_37 : decode cX6_whyNoRow 37 = .ok (.goto 4, 3) := by decide +kernel
theorem dX6_whyNoRow_41 : decode cX6_whyNoRow 41 = .ok (.ireturn, 1) := by decide +kernel
theorem dX6_whyNotTold_0 : decode cX6_whyNotTold 0 = .ok (.aload_n 0, 1) := by decide +kernel
theorem dX6_whyNotTold_1 : decode cX6_whyNotTold 1 = .ok (.iload_n 1, 1) := by decide +kernel
theorem dX6_whyNotTold_2 : decode cX6_whyNotTold 2 = .ok (.iload_n 2, 1) := by decide +kernel
theorem dX6_whyNotTold_3 : decode cX6_whyNotTold 3 = .ok (.invokevirtual 200, 3) := by decide +kernel
theorem dX6_whyNotTold_6 : decode cX6_whyNotTold 6 = .ok (.ifCond .eq 29, 3) := by decide +kernel
theorem dX6_whyNotTold_35 : decode cX6_whyNotTold 35 = .ok (.bipush (-2), 2) := by decide +kernel
theorem dX6_whyNotTold_37 : decode cX6_whyNotTold 37 = .ok (.ireturn, 1) := by decide +kernel
theorem dX6_wipe_0 : decode cX6_wipe 0 = .ok (.aload_n 0, 1) := by decide +kernel
theorem dX6_wipe_1 : decode cX6_wipe 1 = .ok (.getfield 42, 3) := by decide +kernel
theorem dX6_wipe_4 : decode cX6_wipe 4 = .ok (.getfield 171, 3) := by decide +kernel
theorem dX6_wipe_7 : decode cX6_wipe 7 = .ok (.istore_n 1, 1) := by decide +kernel
theorem dX6_wipe_8 : decode cX6_wipe 8 = .ok (.aload_n 0, 1) := by decide +kernel
theorem dX6_wipe_9 : decode cX6_wipe 9 = .ok (.getfield 42, 3) := by decide +kernel
theorem dX6_wipe_12 : decode cX6_wipe 12 = .ok (.iconst 0, 1) := by decide +kernel
theorem dX6_wipe_13 : decode cX6_wipe 13 = .ok (.putfield 171, 3) := by decide +kernel
theorem dX6_wipe_16 : decode cX6_wipe 16 = .ok (.iload_n 1, 1) := by decide +kernel
theorem dX6_wipe_17 : decode cX6_wipe 17 = .ok (.ireturn, 1) := by decide +kernel
theorem dX6_within_0 : decode cX6_within 0 = .ok (.iload_n 0, 1) := by decide +kernel
theorem dX6_within_1 : decode cX6_within 1 = .ok (.iload_n 1, 1) := by decide +kernel
theorem dX6_within_2 : decode cX6_within 2 = .ok (.if_icmp .lt 12, 3) := by decide +kernel
theorem dX6_within_5 : decode cX6_within 5 = .ok (.iload_n 0, 1) := by decide +kernel
theorem dX6_within_6 : decode cX6_within 6 = .ok (.iload_n 2, 1) := by decide +kernel
theorem dX6_within_7 : decode cX6_within 7 = .ok (.if_icmp .gt 7, 3) := by decide +kernel
theorem dX6_within_10 : decode cX6_within 10 = .ok (.iconst 1, 1) := by decide +kernel
theorem dX6_within_11 : decode cX6_within 11 = .ok (.goto 4, 3) := by decide +kernel
theorem dX6_within_14 : decode cX6_within 14 = .ok (.iconst 0, 1) := by decide +kernel
theorem dX6_within_15 : decode cX6_within 15 = .ok (.ireturn, 1) := by decide +kernel
