theorem q_38 : Cond.selects RX7 yX7_read yX7_read ∈ oh_t := oh_of (i := 38) (by decide +kernel) rfl
theorem q_1193 : Cond.methodLink RX7 246 yX7_read ∈ oh_t := oh_of (i := 1193) (by decide +kernel) rfl
theorem q_1195 : Cond.instanceMethod yX7_read ∈ oh_t := oh_of (i := 1195) (by decide +kernel) rfl
theorem q_1196 : Cond.code yX7_read cX7_read 1 (some .boolean) ∈ oh_t := oh_of (i := 1196) (by decide +kernel) rfl
theorem pdVX7_read : yX7_read.cls = RX7 ∧ yX7_read.cls ≠ "java/lang/invoke/MethodHandle" ∧ yX7_read.cls ≠ "java/lang/invoke/VarHandle" ∧ (parseMethodDescriptor yX7_read.desc).map (fun d => d.parameters.length) = some 0 := by decide +kernel
theorem dX7_feed_0 : decode cX7_feed 0 = .ok (.iload_n 2, 1) := by decide +kernel
theorem dX7_feed_1 : decode cX7_feed 1 = .ok (.i2l, 1) := by decide +kernel
theorem dX7_feed_2 : decode cX7_feed 2 = .ok (.lconst 1, 1) := by decide +kernel
theorem dX7_feed_3 : decode cX7_feed 3 = .ok (.ldc2_w 85, 3) := by decide +kernel
theorem dX7_feed_6 : decode cX7_feed 6 = .ok (.invokestatic 62, 3) := by decide +kernel
theorem dX7_feed_9 : decode cX7_feed 9 = .ok (.ifCond .ne 10, 3) := by decide +kernel
theorem dX7_feed_12 : decode cX7_feed 12 = .ok (.aload_n 0, 1) := by decide +kernel
theorem dX7_feed_13 : decode cX7_feed 13 = .ok (.bipush (-2), 2) := by decide +kernel
theorem dX7_feed_15 : decode cX7_feed 15 = .ok (.invokevirtual 89, 3) := by decide +kernel
theorem dX7_feed_18 : decode cX7_feed 18 = .ok (.ireturn, 1) := by decide +kernel
theorem dX7_feed_19 : decode cX7_feed 19 = .ok (.iload_n 2, 1) := by decide +kernel
theorem dX7_feed_20 : decode cX7_feed 20 = .ok (.sipush 250, 3) := by decide +kernel
theorem dX7_feed_23 : decode cX7_feed 23 = .ok (.aload_n 0, 1) := by decide +kernel
theorem dX7_feed_24 : decode cX7_feed 24 = .ok (.getfield 140, 3) := by decide +kernel
theorem dX7_feed_27 : decode cX7_feed 27 = .ok (.isub, 1) := by decide +kernel
theorem dX7_feed_28 : decode cX7_feed 28 = .ok (.if_icmp .le 10, 3) := by decide +kernel
theorem dX7_feed_31 : decode cX7_feed 31 = .ok (.aload_n 0, 1) := by decide +kernel
theorem dX7_feed_32 : decode cX7_feed 32 = .ok (.bipush (-6), 2) := by decide +kernel
theorem dX7_feed_34 : decode cX7_feed 34 = .ok (.invokevirtual 89, 3) := by decide +kernel
theorem dX7_feed_37 : decode cX7_feed 37 = .ok (.ireturn, 1) := by decide +kernel
theorem dX7_feed_38 : decode cX7_feed 38 = .ok (.iload_n 2, 1) := by decide +kernel
theorem dX7_feed_39 : decode cX7_feed 39 = .ok (.iconst 1, 1) := by decide +kernel
theorem dX7_feed_40 : decode cX7_feed 40 = .ok (.isub, 1) := by decide +kernel
theorem dX7_feed_41 : decode cX7_feed 41 = .ok (.istore_n 3, 1) := by decide +kernel
theorem dX7_feed_42 : decode cX7_feed 42 = .ok (.iload_n 3, 1) := by decide +kernel
theorem dX7_feed_43 : decode cX7_feed 43 = .ok (.ifCond .lt 35, 3) := by decide +kernel
theorem dX7_feed_46 : decode cX7_feed 46 = .ok (.aload_n 0, 1) := by decide +kernel
theorem dX7_feed_47 : decode cX7_feed 47 = .ok (.getfield 31, 3) := by decide +kernel
theorem dX7_feed_50 : decode cX7_feed 50 = .ok (.aload_n 0, 1) := by decide +kernel
theorem dX7_feed_51 : decode cX7_feed 51 = .ok (.dup, 1) := by decide +kernel
theorem dX7_feed_52 : decode cX7_feed 52 = .ok (.getfield 140, 3) := by decide +kernel
theorem dX7_feed_55 : decode cX7_feed 55 = .ok (.dup_x1, 1) := by decide +kernel
theorem dX7_feed_56 : decode cX7_feed 56 = .ok (.iconst 1, 1) := by decide +kernel
theorem dX7_feed_57 : decode cX7_feed 57 = .ok (.iadd, 1) := by decide +kernel
theorem dX7_feed_58 : decode cX7_feed 58 = .ok (.putfield 140, 3) := by decide +kernel
theorem dX7_feed_61 : decode cX7_feed 61 = .ok (.iload_n 1, 1) := by decide +kernel
theorem dX7_feed_62 : decode cX7_feed 62 = .ok (.bipush 8, 2) := by decide +kernel
theorem dX7_feed_64 : decode cX7_feed 64 = .ok (.iload_n 3, 1) := by decide +kernel
theorem dX7_feed_65 : decode cX7_feed 65 = .ok (.imul, 1) := by decide +kernel
theorem dX7_feed_66 : decode cX7_feed 66 = .ok (.ishr, 1) := by decide +kernel
theorem dX7_feed_67 : decode cX7_feed 67 = .ok (.sipush 255, 3) := by decide +kernel
theorem dX7_feed_70 : decode cX7_feed 70 = .ok (.iand, 1) := by decide +kernel
theorem dX7_feed_71 : decode cX7_feed 71 = .ok (.iastore, 1) := by decide +kernel
theorem dX7_feed_72 : decode cX7_feed 72 = .ok (.iinc 3 (-1), 3) := by decide +kernel
theorem dX7_feed_75 : decode cX7_feed 75 = .ok (.goto (-33), 3) := by decide +kernel
theorem dX7_feed_78 : decode cX7_feed 78 = .ok (.aload_n 0, 1) := by decide +kernel
theorem dX7_feed_79 : decode cX7_feed 79 = .ok (.getfield 140, 3) := by decide +kernel
theorem dX7_feed_82 : decode cX7_feed 82 = .ok (.ireturn, 1) := by decide +kernel
theorem dX7_land_0 : decode cX7_land 0 = .ok (.aload_n 0, 1) := by decide +kernel
theorem dX7_land_1 : decode cX7_land 1 = .ok (.getfield 66, 3) := by decide +kernel
theorem dX7_land_4 : decode cX7_land 4 = .ok (.istore_n 1, 1) := by decide +kernel
theorem dX7_land_5 : decode cX7_land 5 = .ok (.aload_n 0, 1) := by decide +kernel
theorem dX7_land_6 : decode cX7_land 6 = .ok (.getfield 70, 3) := by decide +kernel
theorem dX7_land_9 : decode cX7_land 9 = .ok (.istore_n 2, 1) := by decide +kernel
theorem dX7_land_10 : decode cX7_land 10 = .ok (.aload_n 0, 1) := by decide +kernel
theorem dX7_land_11 : decode cX7_land 11 = .ok (.getfield 73, 3) := by decide +kernel
theorem dX7_land_14 : decode cX7_land 14 = .ok (.istore_n 3, 1) := by decide +kernel
theorem dX7_land_15 : decode cX7_land 15 = .ok (.aload_n 0, 1) := by decide +kernel
theorem dX7_land_16 : decode cX7_land 16 = .ok (.getfield 80, 3) := by decide +kernel
theorem dX7_land_19 : decode cX7_land 19 = .ok (.istore 4, 2) := by decide +kernel
theorem dX7_land_21 : decode cX7_land 21 = .ok (.aload_n 0, 1) := by decide +kernel
theorem dX7_land_22 : decode cX7_land 22 = .ok (.getfield 51, 3) := by decide +kernel
theorem dX7_land_25 : decode cX7_land 25 = .ok (.iconst 0, 1) := by decide +kernel
theorem dX7_land_26 : decode cX7_land 26 = .ok (.iaload, 1) := by decide +kernel
theorem dX7_land_27 : decode cX7_land 27 = .ok (.istore 5, 2) := by decide +kernel
theorem dX7_land_29 : decode cX7_land 29 = .ok (.aload_n 0, 1) := by decide +kernel
theorem dX7_land_30 : decode cX7_land 30 = .ok (.getfield 51, 3) := by decide +kernel
theorem dX7_land_33 : decode cX7_land 33 = .ok (.iconst 1, 1) := by decide +kernel
theorem dX7_land_34 : decode cX7_land 34 = .ok (.iaload, 1) := by decide +kernel
theorem dX7_land_35 : decode cX7_land 35 = .ok (.istore 6, 2) := by decide +kernel
theorem dX7_land_37 : decode cX7_land 37 = .ok (.aload_n 0, 1) := by decide +kernel
theorem dX7_land_38 : decode cX7_land 38 = .ok (.invokevirtual 246, 3) := by decide +kernel
theorem dX7_land_41 : decode cX7_land 41 = .ok (.istore 7, 2) := by decide +kernel
theorem dX7_land_43 : decode cX7_land 43 = .ok (.aload_n 0, 1) := by decide +kernel
theorem dX7_land_44 : decode cX7_land 44 = .ok (.iconst 0, 1) := by decide +kernel
theorem dX7_land_45 : decode cX7_land 45 = .ok (.putfield 140, 3) := by decide +kernel
theorem dX7_land_48 : decode cX7_land 48 = .ok (.iload 7, 2) := by decide +kernel
theorem dX7_land_50 : decode cX7_land 50 = .ok (.ifCond .ne 55, 3) := by decide +kernel
theorem dX7_land_53 : decode cX7_land 53 = .ok (.aload_n 0, 1) := by decide +kernel
theorem dX7_land_54 : decode cX7_land 54 = .ok (.iload_n 1, 1) := by decide +kernel
theorem dX7_land_55 : decode cX7_land 55 = .ok (.putfield 66, 3) := by decide +kernel
theorem dX7_land_58 : decode cX7_land 58 = .ok (.aload_n 0, 1) := by decide +kernel
theorem dX7_land_59 : decode cX7_land 59 = .ok (.iload_n 2, 1) := by decide +kernel
theorem dX7_land_60 : decode cX7_land 60 = .ok (.putfield 70, 3) := by decide +kernel
theorem dX7_land_63 : decode cX7_land 63 = .ok (.aload_n 0, 1) := by decide +kernel
theorem dX7_land_64 : decode cX7_land 64 = .ok (.iload_n 3, 1) := by decide +kernel
theorem dX7_land_65 : decode cX7_land 65 = .ok (.putfield 73, 3) := by decide +kernel
theorem dX7_land_68 : decode cX7_land 68 = .ok (.aload_n 0, 1) := by decide +kernel
theorem dX7_land_69 : decode cX7_land 69 = .ok (.iload 4, 2) := by decide +kernel
theorem dX7_land_71 : decode cX7_land 71 = .ok (.putfield 80, 3) := by decide +kernel
theorem dX7_land_74 : decode cX7_land 74 = .ok (.aload_n 0, 1) := by decide +kernel
theorem dX7_land_75 : decode cX7_land 75 = .ok (.getfield 51, 3) := by decide +kernel
theorem dX7_land_78 : decode cX7_land 78 = .ok (.iconst 0, 1) := by decide +kernel
theorem dX7_land_79 : decode cX7_land 79 = .ok (.iload 5, 2) := by decide +kernel
theorem dX7_land_81 : decode cX7_land 81 = .ok (.iastore, 1) := by decide +kernel
theorem dX7_land_82 : decode cX7_land 82 = .ok (.aload_n 0, 1) := by decide +kernel
theorem dX7_land_83 : decode cX7_land 83 = .ok (.getfield 51, 3) := by decide +kernel
theorem dX7_land_86 : decode cX7_land 86 = .ok (.iconst 1, 1) := by decide +kernel
theorem dX7_land_87 : decode cX7_land 87 = .ok (.iload 6, 2) := by decide +kernel
theorem dX7_land_89 : decode cX7_land 89 = .ok (.iastore, 1) := by decide +kernel
theorem dX7_land_90 : decode cX7_land 90 = .ok (.aload_n 0, 1) := by decide +kernel
theorem dX7_land_91 : decode cX7_land 91 = .ok (.bipush (-2), 2) := by decide +kernel
theorem dX7_land_93 : decode cX7_land 93 = .ok (.invokevirtual 89, 3) := by decide +kernel
theorem dX7_land_96 : decode cX7_land 96 = .ok (.pop, 1) := by decide +kernel
theorem dX7_land_97 : decode cX7_land 97 = .ok (.bipush (-20), 2) := by decide +kernel
theorem dX7_land_99 : decode cX7_land 99 = .ok (.aload_n 0, 1) := by decide +kernel
theorem dX7_land_100 : decode cX7_land 100 = .ok (.getfield 168, 3) := by decide +kernel
theorem dX7_land_103 : decode cX7_land 103 = .ok (.isub, 1) := by decide +kernel
theorem dX7_land_104 : decode cX7_land 104 = .ok (.ireturn, 1) := by decide +kernel
theorem dX7_land_105 : decode cX7_land 105 = .ok (.aload_n 0, 1) := by decide +kernel
theorem dX7_land_106 : decode cX7_land 106 = .ok (.getfield 240, 3) := by decide +kernel
theorem dX7_land_109 : decode cX7_land 109 = .ok (.ireturn, 1) := by decide +kernel

