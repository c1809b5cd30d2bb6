theorem q_17 : Cond.selects RX6 yX6_isJourney yX6_isJourney ∈ oh_t := oh_of (i := 17) (by decide +kernel) rfl
theorem q_21 : Cond.selects RX6 yX6_orStuck yX6_orStuck ∈ oh_t := oh_of (i := 21) (by decide +kernel) rfl
theorem q_22 : Cond.selects RX6 yX6_findBest yX6_findBest ∈ oh_t := oh_of (i := 22) (by decide +kernel) rfl
theorem q_23 : Cond.selects RX6 yX6_whyNotTold yX6_whyNotTold ∈ oh_t := oh_of (i := 23) (by decide +kernel) rfl
theorem q_24 : Cond.selects RX6 yX6_firstWrong yX6_firstWrong ∈ oh_t := oh_of (i := 24) (by decide +kernel) rfl
theorem q_26 : Cond.selects RX6 yX6_coinIfFallen yX6_coinIfFallen ∈ oh_t := oh_of (i := 26) (by decide +kernel) rfl
theorem q_27 : Cond.selects RX6 yX6_heaviest yX6_heaviest ∈ oh_t := oh_of (i := 27) (by decide +kernel) rfl
theorem q_28 : Cond.selects RX6 yX6_goAlong yX6_goAlong ∈ oh_t := oh_of (i := 28) (by decide +kernel) rfl
theorem q_80 : Cond.initialized RJ6 ∈ oh_t := oh_of (i := 80) (by decide +kernel) rfl
theorem q_112 : Cond.fieldLink RX6 301 "OneHeavyLoad$Land" "trip" "[I" ∈ oh_t := oh_of (i := 112) (by decide +kernel) rfl
theorem q_114 : Cond.fieldLink RX6 304 "OneHeavyLoad$Land" "onWay" "Z" ∈ oh_t := oh_of (i := 114) (by decide +kernel) rfl
theorem q_154 : Cond.fieldLink RX6 295 "OneHeavyLoad$Pack" "sentCoin" "I" ∈ oh_t := oh_of (i := 154) (by decide +kernel) rfl
theorem q_176 : Cond.fieldLink RX6 262 "OneHeavyLoad$Ways" "walked" "[I" ∈ oh_t := oh_of (i := 176) (by decide +kernel) rfl
theorem q_259 : Cond.fieldLink RX6 16 "OneHeavyLoad" "kept" "LOneHeavyLoad$Land;" ∈ oh_t := oh_of (i := 259) (by decide +kernel) rfl
theorem q_260 : Cond.fieldLink RX6 19 "OneHeavyLoad" "isKept" "Z" ∈ oh_t := oh_of (i := 260) (by decide +kernel) rfl
theorem q_776 : Cond.methodLink RX6 238 yX6_isJourney ∈ oh_t := oh_of (i := 776) (by decide +kernel) rfl
theorem q_778 : Cond.instanceMethod yX6_isJourney ∈ oh_t := oh_of (i := 778) (by decide +kernel) rfl
theorem q_779 : Cond.code yX6_isJourney cX6_isJourney 5 (some .boolean) ∈ oh_t := oh_of (i := 779) (by decide +kernel) rfl
theorem q_799 : Cond.methodLink RX6 245 yX6_orStuck ∈ oh_t := oh_of (i := 799) (by decide +kernel) rfl
theorem q_801 : Cond.instanceMethod yX6_orStuck ∈ oh_t := oh_of (i := 801) (by decide +kernel) rfl
theorem q_802 : Cond.code yX6_orStuck cX6_orStuck 2 (some .int) ∈ oh_t := oh_of (i := 802) (by decide +kernel) rfl
theorem q_808 : Cond.methodLink RX6 248 yX5_leastDays ∈ oh_t := oh_of (i := 808) (by decide +kernel) rfl
theorem q_809 : Cond.instanceMethod yX5_leastDays ∈ oh_t := oh_of (i := 809) (by decide +kernel) rfl
theorem q_810 : Cond.selects RX5 yX5_leastDays yX5_leastDays ∈ oh_t := oh_of (i := 810) (by decide +kernel) rfl
theorem q_811 : Cond.code yX5_leastDays cX5_leastDays 6 (some .int) ∈ oh_t := oh_of (i := 811) (by decide +kernel) rfl
theorem q_821 : Cond.methodLink RX6 252 yX6_findBest ∈ oh_t := oh_of (i := 821) (by decide +kernel) rfl
theorem q_823 : Cond.instanceMethod yX6_findBest ∈ oh_t := oh_of (i := 823) (by decide +kernel) rfl
theorem q_824 : Cond.code yX6_findBest cX6_findBest 6 none ∈ oh_t := oh_of (i := 824) (by decide +kernel) rfl
theorem q_830 : Cond.methodLink RX6 256 yX6_whyNotTold ∈ oh_t := oh_of (i := 830) (by decide +kernel) rfl
theorem q_832 : Cond.instanceMethod yX6_whyNotTold ∈ oh_t := oh_of (i := 832) (by decide +kernel) rfl
theorem q_833 : Cond.code yX6_whyNotTold cX6_whyNotTold 7 (some .int) ∈ oh_t := oh_of (i := 833) (by decide +kernel) rfl
theorem q_834 : Cond.methodLink RX6 259 yX6_firstWrong ∈ oh_t := oh_of (i := 834) (by decide +kernel) rfl
theorem q_836 : Cond.instanceMethod yX6_firstWrong ∈ oh_t := oh_of (i := 836) (by decide +kernel) rfl
theorem q_837 : Cond.code yX6_firstWrong cX6_firstWrong 5 (some .int) ∈ oh_t := oh_of (i := 837) (by decide +kernel) rfl
theorem q_854 : Cond.methodLink RX6 265 yJ6_bitCount_0f7a4 ∈ oh_t := oh_of (i := 854) (by decide +kernel) rfl
theorem q_855 : Cond.static yJ6_bitCount_0f7a4 ∈ oh_t := oh_of (i := 855) (by decide +kernel) rfl
theorem q_856 : Cond.code yJ6_bitCount_0f7a4 cJ6_bitCount_0f7a4 1 (some .int) ∈ oh_t := oh_of (i := 856) (by decide +kernel) rfl
theorem q_864 : Cond.methodLink RX6 270 yX5_reached ∈ oh_t := oh_of (i := 864) (by decide +kernel) rfl
theorem q_865 : Cond.instanceMethod yX5_reached ∈ oh_t := oh_of (i := 865) (by decide +kernel) rfl
theorem q_866 : Cond.selects RX5 yX5_reached yX5_reached ∈ oh_t := oh_of (i := 866) (by decide +kernel) rfl
theorem q_867 : Cond.code yX5_reached cX5_reached 6 (some .int) ∈ oh_t := oh_of (i := 867) (by decide +kernel) rfl
theorem q_872 : Cond.methodLink RX6 276 yX6_coinIfFallen ∈ oh_t := oh_of (i := 872) (by decide +kernel) rfl
theorem q_874 : Cond.instanceMethod yX6_coinIfFallen ∈ oh_t := oh_of (i := 874) (by decide +kernel) rfl
theorem q_875 : Cond.code yX6_coinIfFallen cX6_coinIfFallen 8 (some .int) ∈ oh_t := oh_of (i := 875) (by decide +kernel) rfl
theorem q_880 : Cond.fieldLink RX6 279 "OneHeavyLoad" "ROOM" "[I" ∈ oh_t := oh_of (i := 880) (by decide +kernel) rfl
theorem q_881 : Cond.methodLink RX6 285 yX5_hasWay ∈ oh_t := oh_of (i := 881) (by decide +kernel) rfl
theorem q_882 : Cond.instanceMethod yX5_hasWay ∈ oh_t := oh_of (i := 882) (by decide +kernel) rfl
theorem q_883 : Cond.selects RX5 yX5_hasWay yX5_hasWay ∈ oh_t := oh_of (i := 883) (by decide +kernel) rfl
theorem q_884 : Cond.code yX5_hasWay cX5_hasWay 5 (some .boolean) ∈ oh_t := oh_of (i := 884) (by decide +kernel) rfl
theorem q_889 : Cond.methodLink RX6 288 yX6_heaviest ∈ oh_t := oh_of (i := 889) (by decide +kernel) rfl
theorem q_891 : Cond.instanceMethod yX6_heaviest ∈ oh_t := oh_of (i := 891) (by decide +kernel) rfl
theorem q_892 : Cond.code yX6_heaviest cX6_heaviest 6 (some .int) ∈ oh_t := oh_of (i := 892) (by decide +kernel) rfl
theorem q_897 : Cond.methodLink RX6 291 yX6_valueOfWaiting ∈ oh_t := oh_of (i := 897) (by decide +kernel) rfl
theorem q_898 : Cond.static yX6_valueOfWaiting ∈ oh_t := oh_of (i := 898) (by decide +kernel) rfl
theorem q_899 : Cond.code yX6_valueOfWaiting cX6_valueOfWaiting 14 (some .long) ∈ oh_t := oh_of (i := 899) (by decide +kernel) rfl
theorem q_900 : Cond.constantLong RX6 336 10 ∈ oh_t := oh_of (i := 900) (by decide +kernel) rfl
theorem q_901 : Cond.methodLink RX6 338 yJ9_min_f86c9 ∈ oh_t := oh_of (i := 901) (by decide +kernel) rfl
theorem q_902 : Cond.static yJ9_min_f86c9 ∈ oh_t := oh_of (i := 902) (by decide +kernel) rfl
theorem q_903 : Cond.code yJ9_min_f86c9 cJ9_min_f86c9 4 (some .long) ∈ oh_t := oh_of (i := 903) (by decide +kernel) rfl
theorem q_908 : Cond.methodLink RX6 298 yX0_startTrip ∈ oh_t := oh_of (i := 908) (by decide +kernel) rfl
theorem q_909 : Cond.instanceMethod yX0_startTrip ∈ oh_t := oh_of (i := 909) (by decide +kernel) rfl
theorem q_910 : Cond.selects RX0 yX0_startTrip yX0_startTrip ∈ oh_t := oh_of (i := 910) (by decide +kernel) rfl
theorem q_911 : Cond.code yX0_startTrip cX0_startTrip 6 none ∈ oh_t := oh_of (i := 911) (by decide +kernel) rfl
theorem q_916 : Cond.methodLink RX6 307 yX5_firstRoad ∈ oh_t := oh_of (i := 916) (by decide +kernel) rfl
theorem q_917 : Cond.instanceMethod yX5_firstRoad ∈ oh_t := oh_of (i := 917) (by decide +kernel) rfl
theorem q_918 : Cond.selects RX5 yX5_firstRoad yX5_firstRoad ∈ oh_t := oh_of (i := 918) (by decide +kernel) rfl
theorem q_919 : Cond.code yX5_firstRoad cX5_firstRoad 7 (some .int) ∈ oh_t := oh_of (i := 919) (by decide +kernel) rfl
theorem q_920 : Cond.methodLink RX6 310 yX6_goAlong ∈ oh_t := oh_of (i := 920) (by decide +kernel) rfl
theorem q_922 : Cond.instanceMethod yX6_goAlong ∈ oh_t := oh_of (i := 922) (by decide +kernel) rfl
theorem q_923 : Cond.code yX6_goAlong cX6_goAlong 3 none ∈ oh_t := oh_of (i := 923) (by decide +kernel) rfl
theorem q_924 : Cond.methodLink RX6 344 yX5_standProps ∈ oh_t := oh_of (i := 924) (by decide +kernel) rfl
theorem q_925 : Cond.instanceMethod yX5_standProps ∈ oh_t := oh_of (i := 925) (by decide +kernel) rfl
theorem q_926 : Cond.selects RX5 yX5_standProps yX5_standProps ∈ oh_t := oh_of (i := 926) (by decide +kernel) rfl
theorem q_927 : Cond.code yX5_standProps cX5_standProps 3 none ∈ oh_t := oh_of (i := 927) (by decide +kernel) rfl
theorem q_937 : Cond.methodLink RX6 314 yX0_become ∈ oh_t := oh_of (i := 937) (by decide +kernel) rfl
theorem q_938 : Cond.instanceMethod yX0_become ∈ oh_t := oh_of (i := 938) (by decide +kernel) rfl
theorem q_939 : Cond.selects RX0 yX0_become yX0_become ∈ oh_t := oh_of (i := 939) (by decide +kernel) rfl
theorem q_940 : Cond.code yX0_become cX0_become 2 none ∈ oh_t := oh_of (i := 940) (by decide +kernel) rfl
theorem q_941 : Cond.methodLink RX0 40 arraycopyName ∈ oh_t := oh_of (i := 941) (by decide +kernel) rfl
theorem q_946 : Cond.methodLink RX6 317 yX3_dropBridgesFrom ∈ oh_t := oh_of (i := 946) (by decide +kernel) rfl
theorem q_947 : Cond.instanceMethod yX3_dropBridgesFrom ∈ oh_t := oh_of (i := 947) (by decide +kernel) rfl
theorem q_948 : Cond.selects RX3 yX3_dropBridgesFrom yX3_dropBridgesFrom ∈ oh_t := oh_of (i := 948) (by decide +kernel) rfl
theorem q_949 : Cond.code yX3_dropBridgesFrom cX3_dropBridgesFrom 3 none ∈ oh_t := oh_of (i := 949) (by decide +kernel) rfl
theorem q_955 : Cond.methodLink RX6 320 yX3_countHeld ∈ oh_t := oh_of (i := 955) (by decide +kernel) rfl
theorem q_956 : Cond.instanceMethod yX3_countHeld ∈ oh_t := oh_of (i := 956) (by decide +kernel) rfl
theorem q_957 : Cond.selects RX3 yX3_countHeld yX3_countHeld ∈ oh_t := oh_of (i := 957) (by decide +kernel) rfl
theorem q_958 : Cond.code yX3_countHeld cX3_countHeld 3 (some .int) ∈ oh_t := oh_of (i := 958) (by decide +kernel) rfl
theorem q_959 : Cond.methodLink RX6 323 yX0_countBridges ∈ oh_t := oh_of (i := 959) (by decide +kernel) rfl
theorem q_960 : Cond.instanceMethod yX0_countBridges ∈ oh_t := oh_of (i := 960) (by decide +kernel) rfl
theorem q_961 : Cond.selects RX0 yX0_countBridges yX0_countBridges ∈ oh_t := oh_of (i := 961) (by decide +kernel) rfl
theorem q_962 : Cond.code yX0_countBridges cX0_countBridges 4 (some .int) ∈ oh_t := oh_of (i := 962) (by decide +kernel) rfl
theorem pdJ6_bitCount_0f7a4 : yJ6_bitCount_0f7a4.cls ≠ "java/lang/invoke/MethodHandle" ∧ yJ6_bitCount_0f7a4.cls ≠ "java/lang/invoke/VarHandle" ∧ (parseMethodDescriptor yJ6_bitCount_0f7a4.desc).map (fun d => d.parameters.length) = some 1 := by decide +kernel
theorem pdVX0_become : yX0_become.cls = RX0 ∧ yX0_become.cls ≠ "java/lang/invoke/MethodHandle" ∧ yX0_become.cls ≠ "java/lang/invoke/VarHandle" ∧ (parseMethodDescriptor yX0_become.desc).map (fun d => d.parameters.length) = some 1 := by decide +kernel
theorem pdVX0_countBridges : yX0_countBridges.cls = RX0 ∧ yX0_countBridges.cls ≠ "java/lang/invoke/MethodHandle" ∧ yX0_countBridges.cls ≠ "java/lang/invoke/VarHandle" ∧ (parseMethodDescriptor yX0_countBridges.desc).map (fun d => d.parameters.length) = some 1 := by decide +kernel
theorem pdVX0_startTrip : yX0_startTrip.cls = RX0 ∧ yX0_startTrip.cls ≠ "java/lang/invoke/MethodHandle" ∧ yX0_startTrip.cls ≠ "java/lang/invoke/VarHandle" ∧ (parseMethodDescriptor yX0_startTrip.desc).map (fun d => d.parameters.length) = some 5 := by decide +kernel
theorem pdVX3_countHeld : yX3_countHeld.cls = RX3 ∧ yX3_countHeld.cls ≠ "java/lang/invoke/MethodHandle" ∧ yX3_countHeld.cls ≠ "java/lang/invoke/VarHandle" ∧ (parseMethodDescriptor yX3_countHeld.desc).map (fun d => d.parameters.length) = some 0 := by decide +kernel
theorem pdVX3_dropBridgesFrom : yX3_dropBridgesFrom.cls = RX3 ∧ yX3_dropBridgesFrom.cls ≠ "java/lang/invoke/MethodHandle" ∧ yX3_dropBridgesFrom.cls ≠ "java/lang/invoke/VarHandle" ∧ (parseMethodDescriptor yX3_dropBridgesFrom.desc).map (fun d => d.parameters.length) = some 1 := by decide +kernel
theorem pdVX5_firstRoad : yX5_firstRoad.cls = RX5 ∧ yX5_firstRoad.cls ≠ "java/lang/invoke/MethodHandle" ∧ yX5_firstRoad.cls ≠ "java/lang/invoke/VarHandle" ∧ (parseMethodDescriptor yX5_firstRoad.desc).map (fun d => d.parameters.length) = some 4 := by decide +kernel
theorem pdVX5_hasWay : yX5_hasWay.cls = RX5 ∧ yX5_hasWay.cls ≠ "java/lang/invoke/MethodHandle" ∧ yX5_hasWay.cls ≠ "java/lang/invoke/VarHandle" ∧ (parseMethodDescriptor yX5_hasWay.desc).map (fun d => d.parameters.length) = some 4 := by decide +kernel
theorem pdVX5_leastDays : yX5_leastDays.cls = RX5 ∧ yX5_leastDays.cls ≠ "java/lang/invoke/MethodHandle" ∧ yX5_leastDays.cls ≠ "java/lang/invoke/VarHandle" ∧ (parseMethodDescriptor yX5_leastDays.desc).map (fun d => d.parameters.length) = some 4 := by decide +kernel
theorem pdVX5_reached : yX5_reached.cls = RX5 ∧ yX5_reached.cls ≠ "java/lang/invoke/MethodHandle" ∧ yX5_reached.cls ≠ "java/lang/invoke/VarHandle" ∧ (parseMethodDescriptor yX5_reached.desc).map (fun d => d.parameters.length) = some 3 := by decide +kernel
theorem pdVX5_standProps : yX5_standProps.cls = RX5 ∧ yX5_standProps.cls ≠ "java/lang/invoke/MethodHandle" ∧ yX5_standProps.cls ≠ "java/lang/invoke/VarHandle" ∧ (parseMethodDescriptor yX5_standProps.desc).map (fun d => d.parameters.length) = some 1 := by decide +kernel
theorem pdVX6_coinIfFallen : yX6_coinIfFallen.cls = RX6 ∧ yX6_coinIfFallen.cls ≠ "java/lang/invoke/MethodHandle" ∧ yX6_coinIfFallen.cls ≠ "java/lang/invoke/VarHandle" ∧ (parseMethodDescriptor yX6_coinIfFallen.desc).map (fun d => d.parameters.length) = some 5 := by decide +kernel
theorem pdVX6_findBest : yX6_findBest.cls = RX6 ∧ yX6_findBest.cls ≠ "java/lang/invoke/MethodHandle" ∧ yX6_findBest.cls ≠ "java/lang/invoke/VarHandle" ∧ (parseMethodDescriptor yX6_findBest.desc).map (fun d => d.parameters.length) = some 2 := by decide +kernel
theorem pdVX6_firstWrong : yX6_firstWrong.cls = RX6 ∧ yX6_firstWrong.cls ≠ "java/lang/invoke/MethodHandle" ∧ yX6_firstWrong.cls ≠ "java/lang/invoke/VarHandle" ∧ (parseMethodDescriptor yX6_firstWrong.desc).map (fun d => d.parameters.length) = some 3 := by decide +kernel
theorem pdVX6_goAlong : yX6_goAlong.cls = RX6 ∧ yX6_goAlong.cls ≠ "java/lang/invoke/MethodHandle" ∧ yX6_goAlong.cls ≠ "java/lang/invoke/VarHandle" ∧ (parseMethodDescriptor yX6_goAlong.desc).map (fun d => d.parameters.length) = some 1 := by decide +kernel
theorem pdVX6_heaviest : yX6_heaviest.cls = RX6 ∧ yX6_heaviest.cls ≠ "java/lang/invoke/MethodHandle" ∧ yX6_heaviest.cls ≠ "java/lang/invoke/VarHandle" ∧ (parseMethodDescriptor yX6_heaviest.desc).map (fun d => d.parameters.length) = some 3 := by decide +kernel
theorem pdVX6_isJourney : yX6_isJourney.cls = RX6 ∧ yX6_isJourney.cls ≠ "java/lang/invoke/MethodHandle" ∧ yX6_isJourney.cls ≠ "java/lang/invoke/VarHandle" ∧ (parseMethodDescriptor yX6_isJourney.desc).map (fun d => d.parameters.length) = some 4 := by decide +kernel
theorem pdVX6_orStuck : yX6_orStuck.cls = RX6 ∧ yX6_orStuck.cls ≠ "java/lang/invoke/MethodHandle" ∧ yX6_orStuck.cls ≠ "java/lang/invoke/VarHandle" ∧ (parseMethodDescriptor yX6_orStuck.desc).map (fun d => d.parameters.length) = some 1 := by decide +kernel
theorem pdX6_valueOfWaiting : yX6_valueOfWaiting.cls ≠ "java/lang/invoke/MethodHandle" ∧ yX6_valueOfWaiting.cls ≠ "java/lang/invoke/VarHandle" ∧ (parseMethodDescriptor yX6_valueOfWaiting.desc).map (fun d => d.parameters.length) = some 5 := by decide +kernel
theorem pdVX6_whyNotTold : yX6_whyNotTold.cls = RX6 ∧ yX6_whyNotTold.cls ≠ "java/lang/invoke/MethodHandle" ∧ yX6_whyNotTold.cls ≠ "java/lang/invoke/VarHandle" ∧ (parseMethodDescriptor yX6_whyNotTold.desc).map (fun d => d.parameters.length) = some 5 := by decide +kernel
theorem dX0_become_0 : decode cX0_become 0 = .ok (.aload_n 1, 1) := by decide +kernel
theorem dX0_become_1 : decode cX0_become 1 = .ok (.getfield 13, 3) := by decide +kernel
theorem dX0_become_4 : decode cX0_become 4 = .ok (.iconst 0, 1) := by decide +kernel
theorem dX0_become_5 : decode cX0_become 5 = .ok (.aload_n 0, 1) := by decide +kernel
theorem dX0_become_6 : decode cX0_become 6 = .ok (.getfield 13, 3) := by decide +kernel
theorem dX0_become_9 : decode cX0_become 9 = .ok (.iconst 0, 1) := by decide +kernel
theorem dX0_become_10 : decode cX0_become 10 = .ok (.aload_n 0, 1) := by decide +kernel
theorem dX0_become_11 : decode cX0_become 11 = .ok (.getfield 13, 3) := by decide +kernel
theorem dX0_become_14 : decode cX0_become 14 = .ok (.arraylength, 1) := by decide +kernel
theorem dX0_become_15 : decode cX0_become 15 = .ok (.invokestatic 40, 3) := by decide +kernel
theorem dX0_become_18 : decode cX0_become 18 = .ok (.aload_n 1, 1) := by decide +kernel
theorem dX0_become_19 : decode cX0_become 19 = .ok (.getfield 18, 3) := by decide +kernel
theorem dX0_become_22 : decode cX0_become 22 = .ok (.iconst 0, 1) := by decide +kernel
theorem dX0_become_23 : decode cX0_become 23 = .ok (.aload_n 0, 1) := by decide +kernel
theorem dX0_become_24 : decode cX0_become 24 = .ok (.getfield 18, 3) := by decide +kernel
theorem dX0_become_27 : decode cX0_become 27 = .ok (.iconst 0, 1) := by decide +kernel
theorem dX0_become_28 : decode cX0_become 28 = .ok (.aload_n 0, 1) := by decide +kernel
theorem dX0_become_29 : decode cX0_become 29 = .ok (.getfield 18, 3) := by decide +kernel
theorem dX0_become_32 : decode cX0_become 32 = .ok (.arraylength, 1) := by decide +kernel
theorem dX0_become_33 : decode cX0_become 33 = .ok (.invokestatic 40, 3) := by decide +kernel
theorem dX0_become_36 : decode cX0_become 36 = .ok (.aload_n 1, 1) := by decide +kernel
theorem dX0_become_37 : decode cX0_become 37 = .ok (.getfield 21, 3) := by decide +kernel
theorem dX0_become_40 : decode cX0_become 40 = .ok (.iconst 0, 1) := by decide +kernel
theorem dX0_become_41 : decode cX0_become 41 = .ok (.aload_n 0, 1) := by decide +kernel
theorem dX0_become_42 : decode cX0_become 42 = .ok (.getfield 21, 3) := by decide +kernel
theorem dX0_become_45 : decode cX0_become 45 = .ok (.iconst 0, 1) := by decide +kernel
theorem dX0_become_46 : decode cX0_become 46 = .ok (.aload_n 0, 1) := by decide +kernel
theorem dX0_become_47 : decode cX0_become 47 = .ok (.getfield 21, 3) := by decide +kernel
theorem dX0_become_50 : decode cX0_become 50 = .ok (.arraylength, 1) := by decide +kernel
theorem dX0_become_51 : decode cX0_become 51 = .ok (.invokestatic 40, 3) := by decide +kernel
theorem dX0_become_54 : decode cX0_become 54 = .ok (.aload_n 1, 1) := by decide +kernel
theorem dX0_become_55 : decode cX0_become 55 = .ok (.getfield 24, 3) := by decide +kernel
theorem dX0_become_58 : decode cX0_become 58 = .ok (.iconst 0, 1) := by decide +kernel
theorem dX0_become_59 : decode cX0_become 59 = .ok (.aload_n 0, 1) := by decide +kernel
theorem dX0_become_60 : decode cX0_become 60 = .ok (.getfield 24, 3) := by decide +kernel
theorem dX0_become_63 : decode cX0_become 63 = .ok (.iconst 0, 1) := by decide +kernel
theorem dX0_become_64 : decode cX0_become 64 = .ok (.aload_n 0, 1) := by decide +kernel
theorem dX0_become_65 : decode cX0_become 65 = .ok (.getfield 24, 3) := by decide +kernel
theorem dX0_become_68 : decode cX0_become 68 = .ok (.arraylength, 1) := by decide +kernel
theorem dX0_become_69 : decode cX0_become 69 = .ok (.invokestatic 40, 3) := by decide +kernel
theorem dX0_become_72 : decode cX0_become 72 = .ok (.aload_n 1, 1) := by decide +kernel
theorem dX0_become_73 : decode cX0_become 73 = .ok (.getfield 27, 3) := by decide +kernel
theorem dX0_become_76 : decode cX0_become 76 = .ok (.iconst 0, 1) := by decide +kernel
theorem dX0_become_77 : decode cX0_become 77 = .ok (.aload_n 0, 1) := by decide +kernel
theorem dX0_become_78 : decode cX0_become 78 = .ok (.getfield 27, 3) := by decide +kernel
theorem dX0_become_81 : decode cX0_become 81 = .ok (.iconst 0, 1) := by decide +kernel
theorem dX0_become_82 : decode cX0_become 82 = .ok (.aload_n 0, 1) := by decide +kernel
theorem dX0_become_83 : decode cX0_become 83 = .ok (.getfield 27, 3) := by decide +kernel
theorem dX0_become_86 : decode cX0_become 86 = .ok (.arraylength, 1) := by decide +kernel
theorem dX0_become_87 : decode cX0_become 87 = .ok (.invokestatic 40, 3) := by decide +kernel
theorem dX0_become_90 : decode cX0_become 90 = .ok (.aload_n 1, 1) := by decide +kernel
theorem dX0_become_91 : decode cX0_become 91 = .ok (.getfield 30, 3) := by decide +kernel
theorem dX0_become_94 : decode cX0_become 94 = .ok (.iconst 0, 1) := by decide +kernel
theorem dX0_become_95 : decode cX0_become 95 = .ok (.aload_n 0, 1) := by decide +kernel
theorem dX0_become_96 : decode cX0_become 96 = .ok (.getfield 30, 3) := by decide +kernel
theorem dX0_become_99 : decode cX0_become 99 = .ok (.iconst 0, 1) := by decide +kernel
theorem dX0_become_100 : decode cX0_become 100 = .ok (.aload_n 0, 1) := by decide +kernel
theorem dX0_become_101 : decode cX0_become 101 = .ok (.getfield 30, 3) := by decide +kernel
theorem dX0_become_104 : decode cX0_become 104 = .ok (.arraylength, 1) := by decide +kernel
theorem dX0_become_105 : decode cX0_become 105 = .ok (.invokestatic 40, 3) := by decide +kernel
theorem dX0_become_108 : decode cX0_become 108 = .ok (.aload_n 1, 1) := by decide +kernel
theorem dX0_become_109 : decode cX0_become 109 = .ok (.getfield 33, 3) := by decide +kernel
theorem dX0_become_112 : decode cX0_become 112 = .ok (.iconst 0, 1) := by decide +kernel
theorem dX0_become_113 : decode cX0_become 113 = .ok (.aload_n 0, 1) := by decide +kernel
theorem dX0_become_114 : decode cX0_become 114 = .ok (.getfield 33, 3) := by decide +kernel
theorem dX0_become_117 : decode cX0_become 117 = .ok (.iconst 0, 1) := by decide +kernel
theorem dX0_become_118 : decode cX0_become 118 = .ok (.aload_n 0, 1) := by decide +kernel
theorem dX0_become_119 : decode cX0_become 119 = .ok (.getfield 33, 3) := by decide +kernel
theorem dX0_become_122 : decode cX0_become 122 = .ok (.arraylength, 1) := by decide +kernel
theorem dX0_become_123 : decode cX0_become 123 = .ok (.invokestatic 40, 3) := by decide +kernel
theorem dX0_become_126 : decode cX0_become 126 = .ok (.aload_n 0, 1) := by decide +kernel
theorem dX0_become_127 : decode cX0_become 127 = .ok (.aload_n 1, 1) := by decide +kernel
theorem dX0_become_128 : decode cX0_become 128 = .ok (.getfield 36, 3) := by decide +kernel
theorem dX0_become_131 : decode cX0_become 131 = .ok (.putfield 36, 3) := by decide +kernel
theorem dX0_become_134 : decode cX0_become 134 = .ok (.return_, 1) := by decide +kernel
theorem dX6_again_0 : decode cX6_again 0 = .ok (.aload_n 0, 1) := by decide +kernel
theorem dX6_again_1 : decode cX6_again 1 = .ok (.iload_n 1, 1) := by decide +kernel
theorem dX6_again_2 : decode cX6_again 2 = .ok (.iload_n 2, 1) := by decide +kernel
theorem dX6_again_3 : decode cX6_again 3 = .ok (.iload_n 3, 1) := by decide +kernel
theorem dX6_again_4 : decode cX6_again 4 = .ok (.iload 4, 2) := by decide +kernel
theorem dX6_again_6 : decode cX6_again 6 = .ok (.invokevirtual 238, 3) := by decide +kernel
theorem dX6_again_9 : decode cX6_again 9 = .ok (.ifCond .eq 14, 3) := by decide +kernel
theorem dX6_again_12 : decode cX6_again 12 = .ok (.iload 5, 2) := by decide +kernel
theorem dX6_again_14 : decode cX6_again 14 = .ok (.iconst 1, 1) := by decide +kernel
theorem dX6_again_15 : decode cX6_again 15 = .ok (.bipush 20, 2) := by decide +kernel
theorem dX6_again_17 : decode cX6_again 17 = .ok (.invokestatic 66, 3) := by decide +kernel
theorem dX6_again_20 : decode cX6_again 20 = .ok (.ifCond .ne 10, 3) := by decide +kernel
theorem dX6_again_23 : decode cX6_again 23 = .ok (.aload_n 0, 1) := by decide +kernel
theorem dX6_again_24 : decode cX6_again 24 = .ok (.bipush (-2), 2) := by decide +kernel
theorem dX6_again_26 : decode cX6_again 26 = .ok (.invokevirtual 70, 3) := by decide +kernel
theorem dX6_again_29 : decode cX6_again 29 = .ok (.ireturn, 1) := by decide +kernel
theorem dX6_again_30 : decode cX6_again 30 = .ok (.aload_n 0, 1) := by decide +kernel
theorem dX6_again_31 : decode cX6_again 31 = .ok (.aload_n 0, 1) := by decide +kernel
theorem dX6_again_32 : decode cX6_again 32 = .ok (.getfield 28, 3) := by decide +kernel
theorem dX6_again_35 : decode cX6_again 35 = .ok (.iload_n 1, 1) := by decide +kernel
theorem dX6_again_36 : decode cX6_again 36 = .ok (.iload_n 2, 1) := by decide +kernel
theorem dX6_again_37 : decode cX6_again 37 = .ok (.iload_n 3, 1) := by decide +kernel
theorem dX6_again_38 : decode cX6_again 38 = .ok (.iload 4, 2) := by decide +kernel
theorem dX6_again_40 : decode cX6_again 40 = .ok (.iload 5, 2) := by decide +kernel
theorem dX6_again_42 : decode cX6_again 42 = .ok (.invokevirtual 242, 3) := by decide +kernel
theorem dX6_again_45 : decode cX6_again 45 = .ok (.invokevirtual 245, 3) := by decide +kernel
theorem dX6_again_48 : decode cX6_again 48 = .ok (.ireturn, 1) := by decide +kernel
theorem dX6_back_0 : decode cX6_back 0 = .ok (.aload_n 0, 1) := by decide +kernel
theorem dX6_back_1 : decode cX6_back 1 = .ok (.getfield 19, 3) := by decide +kernel
theorem dX6_back_4 : decode cX6_back 4 = .ok (.ifCond .ne 10, 3) := by decide +kernel
theorem dX6_back_7 : decode cX6_back 7 = .ok (.aload_n 0, 1) := by decide +kernel
theorem dX6_back_8 : decode cX6_back 8 = .ok (.bipush (-5), 2) := by decide +kernel
theorem dX6_back_10 : decode cX6_back 10 = .ok (.invokevirtual 70, 3) := by decide +kernel
theorem dX6_back_13 : decode cX6_back 13 = .ok (.ireturn, 1) := by decide +kernel
theorem dX6_back_14 : decode cX6_back 14 = .ok (.aload_n 0, 1) := by decide +kernel
theorem dX6_back_15 : decode cX6_back 15 = .ok (.getfield 10, 3) := by decide +kernel
theorem dX6_back_18 : decode cX6_back 18 = .ok (.aload_n 0, 1) := by decide +kernel
theorem dX6_back_19 : decode cX6_back 19 = .ok (.getfield 16, 3) := by decide +kernel
theorem dX6_back_22 : decode cX6_back 22 = .ok (.invokevirtual 314, 3) := by decide +kernel
theorem dX6_back_25 : decode cX6_back 25 = .ok (.aload_n 0, 1) := by decide +kernel
theorem dX6_back_26 : decode cX6_back 26 = .ok (.getfield 35, 3) := by decide +kernel
theorem dX6_back_29 : decode cX6_back 29 = .ok (.aload_n 0, 1) := by decide +kernel
theorem dX6_back_30 : decode cX6_back 30 = .ok (.getfield 10, 3) := by decide +kernel
theorem dX6_back_33 : decode cX6_back 33 = .ok (.getfield 273, 3) := by decide +kernel
theorem dX6_back_36 : decode cX6_back 36 = .ok (.iconst 1, 1) := by decide +kernel
theorem dX6_back_37 : decode cX6_back 37 = .ok (.iaload, 1) := by decide +kernel
theorem dX6_back_38 : decode cX6_back 38 = .ok (.invokevirtual 317, 3) := by decide +kernel
theorem dX6_back_41 : decode cX6_back 41 = .ok (.iconst 1, 1) := by decide +kernel
theorem dX6_back_42 : decode cX6_back 42 = .ok (.ireturn, 1) := by decide +kernel
theorem dX6_begin_0 : decode cX6_begin 0 = .ok (.aload_n 0, 1) := by decide +kernel
theorem dX6_begin_1 : decode cX6_begin 1 = .ok (.iload_n 1, 1) := by decide +kernel
theorem dX6_begin_2 : decode cX6_begin 2 = .ok (.iload_n 2, 1) := by decide +kernel
theorem dX6_begin_3 : decode cX6_begin 3 = .ok (.iload_n 3, 1) := by decide +kernel
theorem dX6_begin_4 : decode cX6_begin 4 = .ok (.iload 4, 2) := by decide +kernel
theorem dX6_begin_6 : decode cX6_begin 6 = .ok (.invokevirtual 238, 3) := by decide +kernel
theorem dX6_begin_9 : decode cX6_begin 9 = .ok (.ifCond .ne 10, 3) := by decide +kernel
theorem dX6_begin_12 : decode cX6_begin 12 = .ok (.aload_n 0, 1) := by decide +kernel
theorem dX6_begin_13 : decode cX6_begin 13 = .ok (.bipush (-2), 2) := by decide +kernel
theorem dX6_begin_15 : decode cX6_begin 15 = .ok (.invokevirtual 70, 3) := by decide +kernel
theorem dX6_begin_18 : decode cX6_begin 18 = .ok (.ireturn, 1) := by decide +kernel
theorem dX6_begin_19 : decode cX6_begin 19 = .ok (.aload_n 0, 1) := by decide +kernel
theorem dX6_begin_20 : decode cX6_begin 20 = .ok (.getfield 28, 3) := by decide +kernel
theorem dX6_begin_23 : decode cX6_begin 23 = .ok (.getfield 203, 3) := by decide +kernel
theorem dX6_begin_26 : decode cX6_begin 26 = .ok (.aload_n 0, 1) := by decide +kernel
theorem dX6_begin_27 : decode cX6_begin 27 = .ok (.getfield 10, 3) := by decide +kernel
theorem dX6_begin_30 : decode cX6_begin 30 = .ok (.iload_n 1, 1) := by decide +kernel
theorem dX6_begin_31 : decode cX6_begin 31 = .ok (.iload_n 2, 1) := by decide +kernel
theorem dX6_begin_32 : decode cX6_begin 32 = .ok (.invokevirtual 207, 3) := by decide +kernel
theorem dX6_begin_35 : decode cX6_begin 35 = .ok (.aload_n 0, 1) := by decide +kernel
theorem dX6_begin_36 : decode cX6_begin 36 = .ok (.getfield 10, 3) := by decide +kernel
theorem dX6_begin_39 : decode cX6_begin 39 = .ok (.iload_n 1, 1) := by decide +kernel
theorem dX6_begin_40 : decode cX6_begin 40 = .ok (.iload_n 2, 1) := by decide +kernel
theorem dX6_begin_41 : decode cX6_begin 41 = .ok (.iload_n 3, 1) := by decide +kernel
theorem dX6_begin_42 : decode cX6_begin 42 = .ok (.iload 4, 2) := by decide +kernel
theorem dX6_begin_44 : decode cX6_begin 44 = .ok (.aload_n 0, 1) := by decide +kernel
theorem dX6_begin_45 : decode cX6_begin 45 = .ok (.getfield 28, 3) := by decide +kernel
theorem dX6_begin_48 : decode cX6_begin 48 = .ok (.getfield 203, 3) := by decide +kernel
theorem dX6_begin_51 : decode cX6_begin 51 = .ok (.getfield 295, 3) := by decide +kernel
theorem dX6_begin_54 : decode cX6_begin 54 = .ok (.invokevirtual 298, 3) := by decide +kernel
theorem dX6_begin_57 : decode cX6_begin 57 = .ok (.iconst 1, 1) := by decide +kernel
theorem dX6_begin_58 : decode cX6_begin 58 = .ok (.ireturn, 1) := by decide +kernel
theorem dX6_best_0 : decode cX6_best 0 = .ok (.iload_n 1, 1) := by decide +kernel
theorem dX6_best_1 : decode cX6_best 1 = .ok (.invokestatic 126, 3) := by decide +kernel
theorem dX6_best_4 : decode cX6_best 4 = .ok (.ifCond .eq 19, 3) := by decide +kernel
theorem dX6_best_7 : decode cX6_best 7 = .ok (.iload_n 2, 1) := by decide +kernel
theorem dX6_best_8 : decode cX6_best 8 = .ok (.invokestatic 126, 3) := by decide +kernel
theorem dX6_best_11 : decode cX6_best 11 = .ok (.ifCond .eq 12, 3) := by decide +kernel
theorem dX6_best_14 : decode cX6_best 14 = .ok (.iload_n 3, 1) := by decide +kernel
theorem dX6_best_15 : decode cX6_best 15 = .ok (.iconst 0, 1) := by decide +kernel
theorem dX6_best_16 : decode cX6_best 16 = .ok (.iconst 2, 1) := by decide +kernel
theorem dX6_best_17 : decode cX6_best 17 = .ok (.invokestatic 66, 3) := by decide +kernel
theorem dX6_best_20 : decode cX6_best 20 = .ok (.ifCond .ne 10, 3) := by decide +kernel
theorem dX6_best_23 : decode cX6_best 23 = .ok (.aload_n 0, 1) := by decide +kernel
theorem dX6_best_24 : decode cX6_best 24 = .ok (.bipush (-2), 2) := by decide +kernel
theorem dX6_best_26 : decode cX6_best 26 = .ok (.invokevirtual 70, 3) := by decide +kernel
theorem dX6_best_29 : decode cX6_best 29 = .ok (.ireturn, 1) := by decide +kernel
theorem dX6_best_30 : decode cX6_best 30 = .ok (.aload_n 0, 1) := by decide +kernel
theorem dX6_best_31 : decode cX6_best 31 = .ok (.iload_n 1, 1) := by decide +kernel
theorem dX6_best_32 : decode cX6_best 32 = .ok (.iload_n 2, 1) := by decide +kernel
theorem dX6_best_33 : decode cX6_best 33 = .ok (.invokevirtual 252, 3) := by decide +kernel
theorem dX6_best_36 : decode cX6_best 36 = .ok (.aload_n 0, 1) := by decide +kernel
theorem dX6_best_37 : decode cX6_best 37 = .ok (.getfield 59, 3) := by decide +kernel
theorem dX6_best_40 : decode cX6_best 40 = .ok (.iconst 2, 1) := by decide +kernel
theorem dX6_best_41 : decode cX6_best 41 = .ok (.iaload, 1) := by decide +kernel
theorem dX6_best_42 : decode cX6_best 42 = .ok (.ldc 255, 2) := by decide +kernel
theorem dX6_best_44 : decode cX6_best 44 = .ok (.if_icmp .ne 12, 3) := by decide +kernel
theorem dX6_best_47 : decode cX6_best 47 = .ok (.aload_n 0, 1) := by decide +kernel
theorem dX6_best_48 : decode cX6_best 48 = .ok (.bipush (-5), 2) := by decide +kernel
theorem dX6_best_50 : decode cX6_best 50 = .ok (.invokevirtual 70, 3) := by decide +kernel
theorem dX6_best_53 : decode cX6_best 53 = .ok (.goto 9, 3) := by decide +kernel
theorem dX6_best_56 : decode cX6_best 56 = .ok (.aload_n 0, 1) := by decide +kernel
theorem dX6_best_57 : decode cX6_best 57 = .ok (.getfield 59, 3) := by decide +kernel
theorem dX6_best_60 : decode cX6_best 60 = .ok (.iload_n 3, 1) := by decide +kernel
theorem dX6_best_61 : decode cX6_best 61 = .ok (.iaload, 1) := by decide +kernel
theorem dX6_best_62 : decode cX6_best 62 = .ok (.ireturn, 1) := by decide +kernel
theorem dX6_cheapest_0 : decode cX6_cheapest 0 = .ok (.aload_n 0, 1) := by decide +kernel
theorem dX6_cheapest_1 : decode cX6_cheapest 1 = .ok (.iload_n 1, 1) := by decide +kernel
theorem dX6_cheapest_2 : decode cX6_cheapest 2 = .ok (.iload_n 2, 1) := by decide +kernel
theorem dX6_cheapest_3 : decode cX6_cheapest 3 = .ok (.iload_n 3, 1) := by decide +kernel
theorem dX6_cheapest_4 : decode cX6_cheapest 4 = .ok (.iload 4, 2) := by decide +kernel
theorem dX6_cheapest_6 : decode cX6_cheapest 6 = .ok (.invokevirtual 238, 3) := by decide +kernel
theorem dX6_cheapest_9 : decode cX6_cheapest 9 = .ok (.ifCond .ne 10, 3) := by decide +kernel
theorem dX6_cheapest_12 : decode cX6_cheapest 12 = .ok (.aload_n 0, 1) := by decide +kernel
theorem dX6_cheapest_13 : decode cX6_cheapest 13 = .ok (.bipush (-2), 2) := by decide +kernel
theorem dX6_cheapest_15 : decode cX6_cheapest 15 = .ok (.invokevirtual 70, 3) := by decide +kernel
theorem dX6_cheapest_18 : decode cX6_cheapest 18 = .ok (.ireturn, 1) := by decide +kernel
theorem dX6_cheapest_19 : decode cX6_cheapest 19 = .ok (.aload_n 0, 1) := by decide +kernel
theorem dX6_cheapest_20 : decode cX6_cheapest 20 = .ok (.aload_n 0, 1) := by decide +kernel
theorem dX6_cheapest_21 : decode cX6_cheapest 21 = .ok (.getfield 28, 3) := by decide +kernel
theorem dX6_cheapest_24 : decode cX6_cheapest 24 = .ok (.iload_n 1, 1) := by decide +kernel
theorem dX6_cheapest_25 : decode cX6_cheapest 25 = .ok (.iload_n 2, 1) := by decide +kernel
theorem dX6_cheapest_26 : decode cX6_cheapest 26 = .ok (.iload_n 3, 1) := by decide +kernel
theorem dX6_cheapest_27 : decode cX6_cheapest 27 = .ok (.iload 4, 2) := by decide +kernel
theorem dX6_cheapest_29 : decode cX6_cheapest 29 = .ok (.iconst 1, 1) := by decide +kernel
theorem dX6_cheapest_30 : decode cX6_cheapest 30 = .ok (.invokevirtual 242, 3) := by decide +kernel
theorem dX6_cheapest_33 : decode cX6_cheapest 33 = .ok (.invokevirtual 245, 3) := by decide +kernel
theorem dX6_cheapest_36 : decode cX6_cheapest 36 = .ok (.ireturn, 1) := by decide +kernel
theorem dX6_fewest_0 : decode cX6_fewest 0 = .ok (.aload_n 0, 1) := by decide +kernel
theorem dX6_fewest_1 : decode cX6_fewest 1 = .ok (.iload_n 1, 1) := by decide +kernel
theorem dX6_fewest_2 : decode cX6_fewest 2 = .ok (.invokevirtual 194, 3) := by decide +kernel
theorem dX6_fewest_5 : decode cX6_fewest 5 = .ok (.ifCond .eq 17, 3) := by decide +kernel
theorem dX6_fewest_8 : decode cX6_fewest 8 = .ok (.iload_n 2, 1) := by decide +kernel
theorem dX6_fewest_9 : decode cX6_fewest 9 = .ok (.invokestatic 126, 3) := by decide +kernel
theorem dX6_fewest_12 : decode cX6_fewest 12 = .ok (.ifCond .eq 10, 3) := by decide +kernel
theorem dX6_fewest_15 : decode cX6_fewest 15 = .ok (.iload_n 3, 1) := by decide +kernel
theorem dX6_fewest_16 : decode cX6_fewest 16 = .ok (.invokestatic 126, 3) := by decide +kernel
theorem dX6_fewest_19 : decode cX6_fewest 19 = .ok (.ifCond .ne 10, 3) := by decide +kernel
theorem dX6_fewest_22 : decode cX6_fewest 22 = .ok (.aload_n 0, 1) := by decide +kernel
theorem dX6_fewest_23 : decode cX6_fewest 23 = .ok (.bipush (-2), 2) := by decide +kernel
theorem dX6_fewest_25 : decode cX6_fewest 25 = .ok (.invokevirtual 70, 3) := by decide +kernel
theorem dX6_fewest_28 : decode cX6_fewest 28 = .ok (.ireturn, 1) := by decide +kernel
theorem dX6_fewest_29 : decode cX6_fewest 29 = .ok (.iconst (-1), 1) := by decide +kernel
theorem dX6_fewest_30 : decode cX6_fewest 30 = .ok (.istore 4, 2) := by decide +kernel
theorem dX6_fewest_32 : decode cX6_fewest 32 = .ok (.getstatic 279, 3) := by decide +kernel
theorem dX6_fewest_35 : decode cX6_fewest 35 = .ok (.iconst 3, 1) := by decide +kernel
theorem dX6_fewest_36 : decode cX6_fewest 36 = .ok (.iaload, 1) := by decide +kernel
theorem dX6_fewest_37 : decode cX6_fewest 37 = .ok (.iconst 1, 1) := by decide +kernel
theorem dX6_fewest_38 : decode cX6_fewest 38 = .ok (.iadd, 1) := by decide +kernel
theorem dX6_fewest_39 : decode cX6_fewest 39 = .ok (.istore 5, 2) := by decide +kernel
theorem dX6_fewest_41 : decode cX6_fewest 41 = .ok (.iconst 0, 1) := by decide +kernel
theorem dX6_fewest_42 : decode cX6_fewest 42 = .ok (.istore 6, 2) := by decide +kernel
theorem dX6_fewest_44 : decode cX6_fewest 44 = .ok (.iload 6, 2) := by decide +kernel
theorem dX6_fewest_46 : decode cX6_fewest 46 = .ok (.aload_n 0, 1) := by decide +kernel
theorem dX6_fewest_47 : decode cX6_fewest 47 = .ok (.getfield 10, 3) := by decide +kernel
theorem dX6_fewest_50 : decode cX6_fewest 50 = .ok (.invokevirtual 282, 3) := by decide +kernel
theorem dX6_fewest_53 : decode cX6_fewest 53 = .ok (.if_icmp .ge 45, 3) := by decide +kernel
theorem dX6_fewest_56 : decode cX6_fewest 56 = .ok (.iload 6, 2) := by decide +kernel
theorem dX6_fewest_58 : decode cX6_fewest 58 = .ok (.invokestatic 265, 3) := by decide +kernel
theorem dX6_fewest_61 : decode cX6_fewest 61 = .ok (.iload 5, 2) := by decide +kernel
theorem dX6_fewest_63 : decode cX6_fewest 63 = .ok (.if_icmp .ge 29, 3) := by decide +kernel
theorem dX6_fewest_66 : decode cX6_fewest 66 = .ok (.aload_n 0, 1) := by decide +kernel
theorem dX6_fewest_67 : decode cX6_fewest 67 = .ok (.getfield 28, 3) := by decide +kernel
theorem dX6_fewest_70 : decode cX6_fewest 70 = .ok (.iload_n 1, 1) := by decide +kernel
theorem dX6_fewest_71 : decode cX6_fewest 71 = .ok (.iload 6, 2) := by decide +kernel
theorem dX6_fewest_73 : decode cX6_fewest 73 = .ok (.iload_n 2, 1) := by decide +kernel
theorem dX6_fewest_74 : decode cX6_fewest 74 = .ok (.iload_n 3, 1) := by decide +kernel
theorem dX6_fewest_75 : decode cX6_fewest 75 = .ok (.invokevirtual 285, 3) := by decide +kernel
theorem dX6_fewest_78 : decode cX6_fewest 78 = .ok (.ifCond .eq 14, 3) := by decide +kernel
theorem dX6_fewest_81 : decode cX6_fewest 81 = .ok (.iload 6, 2) := by decide +kernel
theorem dX6_fewest_83 : decode cX6_fewest 83 = .ok (.istore 4, 2) := by decide +kernel
theorem dX6_fewest_85 : decode cX6_fewest 85 = .ok (.iload 6, 2) := by decide +kernel
theorem dX6_fewest_87 : decode cX6_fewest 87 = .ok (.invokestatic 265, 3) := by decide +kernel
theorem dX6_fewest_90 : decode cX6_fewest 90 = .ok (.istore 5, 2) := by decide +kernel
theorem dX6_fewest_92 : decode cX6_fewest 92 = .ok (.iinc 6 1, 3) := by decide +kernel
theorem dX6_fewest_95 : decode cX6_fewest 95 = .ok (.goto (-51), 3) := by decide +kernel
theorem dX6_fewest_98 : decode cX6_fewest 98 = .ok (.iload 4, 2) := by decide +kernel
theorem dX6_fewest_100 : decode cX6_fewest 100 = .ok (.iconst (-1), 1) := by decide +kernel
theorem dX6_fewest_101 : decode cX6_fewest 101 = .ok (.if_icmp .ne 12, 3) := by decide +kernel
theorem dX6_fewest_104 : decode cX6_fewest 104 = .ok (.aload_n 0, 1) := by decide +kernel
theorem dX6_fewest_105 : decode cX6_fewest 105 = .ok (.bipush (-5), 2) := by decide +kernel
theorem dX6_fewest_107 : decode cX6_fewest 107 = .ok (.invokevirtual 70, 3) := by decide +kernel
theorem dX6_fewest_110 : decode cX6_fewest 110 = .ok (.goto 5, 3) := by decide +kernel
theorem dX6_fewest_113 : decode cX6_fewest 113 = .ok (.iload 4, 2) := by decide +kernel
theorem dX6_fewest_115 : decode cX6_fewest 115 = .ok (.ireturn, 1) := by decide +kernel
theorem dX6_frost_0 : decode cX6_frost 0 = .ok (.aload_n 0, 1) := by decide +kernel
theorem dX6_frost_1 : decode cX6_frost 1 = .ok (.iload_n 1, 1) := by decide +kernel
theorem dX6_frost_2 : decode cX6_frost 2 = .ok (.iload_n 2, 1) := by decide +kernel
theorem dX6_frost_3 : decode cX6_frost 3 = .ok (.iload_n 3, 1) := by decide +kernel
theorem dX6_frost_4 : decode cX6_frost 4 = .ok (.iload 4, 2) := by decide +kernel
theorem dX6_frost_6 : decode cX6_frost 6 = .ok (.invokevirtual 238, 3) := by decide +kernel
theorem dX6_frost_9 : decode cX6_frost 9 = .ok (.ifCond .eq 37, 3) := by decide +kernel
theorem dX6_frost_12 : decode cX6_frost 12 = .ok (.iload 5, 2) := by decide +kernel
theorem dX6_frost_14 : decode cX6_frost 14 = .ok (.iconst 0, 1) := by decide +kernel
theorem dX6_frost_15 : decode cX6_frost 15 = .ok (.bipush 6, 2) := by decide +kernel
theorem dX6_frost_17 : decode cX6_frost 17 = .ok (.invokestatic 66, 3) := by decide +kernel
theorem dX6_frost_20 : decode cX6_frost 20 = .ok (.ifCond .eq 26, 3) := by decide +kernel
theorem dX6_frost_23 : decode cX6_frost 23 = .ok (.iload 6, 2) := by decide +kernel
theorem dX6_frost_25 : decode cX6_frost 25 = .ok (.iconst 0, 1) := by decide +kernel
theorem dX6_frost_26 : decode cX6_frost 26 = .ok (.bipush 10, 2) := by decide +kernel
theorem dX6_frost_28 : decode cX6_frost 28 = .ok (.invokestatic 66, 3) := by decide +kernel
theorem dX6_frost_31 : decode cX6_frost 31 = .ok (.ifCond .eq 15, 3) := by decide +kernel
theorem dX6_frost_34 : decode cX6_frost 34 = .ok (.iload 7, 2) := by decide +kernel
theorem dX6_frost_36 : decode cX6_frost 36 = .ok (.iconst 0, 1) := by decide +kernel
theorem dX6_frost_37 : decode cX6_frost 37 = .ok (.sipush 999, 3) := by decide +kernel
theorem dX6_frost_40 : decode cX6_frost 40 = .ok (.invokestatic 66, 3) := by decide +kernel
theorem dX6_frost_43 : decode cX6_frost 43 = .ok (.ifCond .ne 11, 3) := by decide +kernel
theorem dX6_frost_46 : decode cX6_frost 46 = .ok (.aload_n 0, 1) := by decide +kernel
theorem dX6_frost_47 : decode cX6_frost 47 = .ok (.bipush (-2), 2) := by decide +kernel
theorem dX6_frost_49 : decode cX6_frost 49 = .ok (.invokevirtual 70, 3) := by decide +kernel
theorem dX6_frost_52 : decode cX6_frost 52 = .ok (.i2l, 1) := by decide +kernel
theorem dX6_frost_53 : decode cX6_frost 53 = .ok (.lreturn, 1) := by decide +kernel
theorem dX6_frost_54 : decode cX6_frost 54 = .ok (.aload_n 0, 1) := by decide +kernel
theorem dX6_frost_55 : decode cX6_frost 55 = .ok (.getfield 10, 3) := by decide +kernel
theorem dX6_frost_58 : decode cX6_frost 58 = .ok (.getfield 156, 3) := by decide +kernel
theorem dX6_frost_61 : decode cX6_frost 61 = .ok (.iconst 2, 1) := by decide +kernel
theorem dX6_frost_62 : decode cX6_frost 62 = .ok (.iaload, 1) := by decide +kernel
theorem dX6_frost_63 : decode cX6_frost 63 = .ok (.istore 8, 2) := by decide +kernel
theorem dX6_frost_65 : decode cX6_frost 65 = .ok (.aload_n 0, 1) := by decide +kernel
theorem dX6_frost_66 : decode cX6_frost 66 = .ok (.getfield 10, 3) := by decide +kernel
theorem dX6_frost_69 : decode cX6_frost 69 = .ok (.getfield 156, 3) := by decide +kernel
theorem dX6_frost_72 : decode cX6_frost 72 = .ok (.iconst 2, 1) := by decide +kernel
theorem dX6_frost_73 : decode cX6_frost 73 = .ok (.iconst 0, 1) := by decide +kernel
theorem dX6_frost_74 : decode cX6_frost 74 = .ok (.iastore, 1) := by decide +kernel
theorem dX6_frost_75 : decode cX6_frost 75 = .ok (.aload_n 0, 1) := by decide +kernel
theorem dX6_frost_76 : decode cX6_frost 76 = .ok (.getfield 28, 3) := by decide +kernel
theorem dX6_frost_79 : decode cX6_frost 79 = .ok (.iload_n 1, 1) := by decide +kernel
theorem dX6_frost_80 : decode cX6_frost 80 = .ok (.iload_n 2, 1) := by decide +kernel
theorem dX6_frost_81 : decode cX6_frost 81 = .ok (.iload_n 3, 1) := by decide +kernel
theorem dX6_frost_82 : decode cX6_frost 82 = .ok (.iload 4, 2) := by decide +kernel
theorem dX6_frost_84 : decode cX6_frost 84 = .ok (.iconst 1, 1) := by decide +kernel
theorem dX6_frost_85 : decode cX6_frost 85 = .ok (.invokevirtual 242, 3) := by decide +kernel
theorem dX6_frost_88 : decode cX6_frost 88 = .ok (.istore 9, 2) := by decide +kernel
theorem dX6_frost_90 : decode cX6_frost 90 = .ok (.aload_n 0, 1) := by decide +kernel
theorem dX6_frost_91 : decode cX6_frost 91 = .ok (.getfield 10, 3) := by decide +kernel
theorem dX6_frost_94 : decode cX6_frost 94 = .ok (.getfield 156, 3) := by decide +kernel
theorem dX6_frost_97 : decode cX6_frost 97 = .ok (.iconst 2, 1) := by decide +kernel
theorem dX6_frost_98 : decode cX6_frost 98 = .ok (.iconst 1, 1) := by decide +kernel
theorem dX6_frost_99 : decode cX6_frost 99 = .ok (.iastore, 1) := by decide +kernel
theorem dX6_frost_100 : decode cX6_frost 100 = .ok (.aload_n 0, 1) := by decide +kernel
theorem dX6_frost_101 : decode cX6_frost 101 = .ok (.getfield 28, 3) := by decide +kernel
theorem dX6_frost_104 : decode cX6_frost 104 = .ok (.iload_n 1, 1) := by decide +kernel
theorem dX6_frost_105 : decode cX6_frost 105 = .ok (.iload_n 2, 1) := by decide +kernel
theorem dX6_frost_106 : decode cX6_frost 106 = .ok (.iload_n 3, 1) := by decide +kernel
theorem dX6_frost_107 : decode cX6_frost 107 = .ok (.iload 4, 2) := by decide +kernel
theorem dX6_frost_109 : decode cX6_frost 109 = .ok (.iconst 1, 1) := by decide +kernel
theorem dX6_frost_110 : decode cX6_frost 110 = .ok (.invokevirtual 242, 3) := by decide +kernel
theorem dX6_frost_113 : decode cX6_frost 113 = .ok (.istore 10, 2) := by decide +kernel
theorem dX6_frost_115 : decode cX6_frost 115 = .ok (.aload_n 0, 1) := by decide +kernel
theorem dX6_frost_116 : decode cX6_frost 116 = .ok (.getfield 10, 3) := by decide +kernel
theorem dX6_frost_119 : decode cX6_frost 119 = .ok (.getfield 156, 3) := by decide +kernel
theorem dX6_frost_122 : decode cX6_frost 122 = .ok (.iconst 2, 1) := by decide +kernel
theorem dX6_frost_123 : decode cX6_frost 123 = .ok (.iload 8, 2) := by decide +kernel
theorem dX6_frost_125 : decode cX6_frost 125 = .ok (.iastore, 1) := by decide +kernel
theorem dX6_frost_126 : decode cX6_frost 126 = .ok (.iload 9, 2) := by decide +kernel
theorem dX6_frost_128 : decode cX6_frost 128 = .ok (.ldc 255, 2) := by decide +kernel
theorem dX6_frost_130 : decode cX6_frost 130 = .ok (.if_icmp .ne 13, 3) := by decide +kernel
theorem dX6_frost_133 : decode cX6_frost 133 = .ok (.aload_n 0, 1) := by decide +kernel
theorem dX6_frost_134 : decode cX6_frost 134 = .ok (.bipush (-5), 2) := by decide +kernel
theorem dX6_frost_136 : decode cX6_frost 136 = .ok (.invokevirtual 70, 3) := by decide +kernel
theorem dX6_frost_139 : decode cX6_frost 139 = .ok (.i2l, 1) := by decide +kernel
theorem dX6_frost_140 : decode cX6_frost 140 = .ok (.goto 18, 3) := by decide +kernel
theorem dX6_frost_143 : decode cX6_frost 143 = .ok (.iload 9, 2) := by decide +kernel
theorem dX6_frost_145 : decode cX6_frost 145 = .ok (.i2l, 1) := by decide +kernel
theorem dX6_frost_146 : decode cX6_frost 146 = .ok (.iload 10, 2) := by decide +kernel
theorem dX6_frost_148 : decode cX6_frost 148 = .ok (.i2l, 1) := by decide +kernel
theorem dX6_frost_149 : decode cX6_frost 149 = .ok (.iload 5, 2) := by decide +kernel
theorem dX6_frost_151 : decode cX6_frost 151 = .ok (.iload 6, 2) := by decide +kernel
theorem dX6_frost_153 : decode cX6_frost 153 = .ok (.iload 7, 2) := by decide +kernel
theorem dX6_frost_155 : decode cX6_frost 155 = .ok (.invokestatic 291, 3) := by decide +kernel
theorem dX6_frost_158 : decode cX6_frost 158 = .ok (.lreturn, 1) := by decide +kernel
theorem dX6_goAlong_0 : decode cX6_goAlong 0 = .ok (.aload_n 0, 1) := by decide +kernel
theorem dX6_goAlong_1 : decode cX6_goAlong 1 = .ok (.getfield 10, 3) := by decide +kernel
theorem dX6_goAlong_4 : decode cX6_goAlong 4 = .ok (.getfield 301, 3) := by decide +kernel
theorem dX6_goAlong_7 : decode cX6_goAlong 7 = .ok (.astore_n 2, 1) := by decide +kernel
theorem dX6_goAlong_8 : decode cX6_goAlong 8 = .ok (.aload_n 0, 1) := by decide +kernel
theorem dX6_goAlong_9 : decode cX6_goAlong 9 = .ok (.getfield 28, 3) := by decide +kernel
theorem dX6_goAlong_12 : decode cX6_goAlong 12 = .ok (.aload_n 2, 1) := by decide +kernel
theorem dX6_goAlong_13 : decode cX6_goAlong 13 = .ok (.iconst 0, 1) := by decide +kernel
theorem dX6_goAlong_14 : decode cX6_goAlong 14 = .ok (.iaload, 1) := by decide +kernel
theorem dX6_goAlong_15 : decode cX6_goAlong 15 = .ok (.invokevirtual 326, 3) := by decide +kernel
theorem dX6_goAlong_18 : decode cX6_goAlong 18 = .ok (.aload_n 0, 1) := by decide +kernel
theorem dX6_goAlong_19 : decode cX6_goAlong 19 = .ok (.getfield 28, 3) := by decide +kernel
theorem dX6_goAlong_22 : decode cX6_goAlong 22 = .ok (.iload_n 1, 1) := by decide +kernel
theorem dX6_goAlong_23 : decode cX6_goAlong 23 = .ok (.i2l, 1) := by decide +kernel
theorem dX6_goAlong_24 : decode cX6_goAlong 24 = .ok (.invokevirtual 329, 3) := by decide +kernel
theorem dX6_goAlong_27 : decode cX6_goAlong 27 = .ok (.pop, 1) := by decide +kernel
theorem dX6_goAlong_28 : decode cX6_goAlong 28 = .ok (.aload_n 2, 1) := by decide +kernel
theorem dX6_goAlong_29 : decode cX6_goAlong 29 = .ok (.iconst 0, 1) := by decide +kernel
theorem dX6_goAlong_30 : decode cX6_goAlong 30 = .ok (.aload_n 0, 1) := by decide +kernel
theorem dX6_goAlong_31 : decode cX6_goAlong 31 = .ok (.getfield 28, 3) := by decide +kernel
theorem dX6_goAlong_34 : decode cX6_goAlong 34 = .ok (.getfield 262, 3) := by decide +kernel
theorem dX6_goAlong_37 : decode cX6_goAlong 37 = .ok (.iconst 3, 1) := by decide +kernel
theorem dX6_goAlong_38 : decode cX6_goAlong 38 = .ok (.iaload, 1) := by decide +kernel
theorem dX6_goAlong_39 : decode cX6_goAlong 39 = .ok (.iastore, 1) := by decide +kernel
theorem dX6_goAlong_40 : decode cX6_goAlong 40 = .ok (.aload_n 2, 1) := by decide +kernel
theorem dX6_goAlong_41 : decode cX6_goAlong 41 = .ok (.iconst 2, 1) := by decide +kernel
theorem dX6_goAlong_42 : decode cX6_goAlong 42 = .ok (.dup2, 1) := by decide +kernel
theorem dX6_goAlong_43 : decode cX6_goAlong 43 = .ok (.iaload, 1) := by decide +kernel
theorem dX6_goAlong_44 : decode cX6_goAlong 44 = .ok (.aload_n 0, 1) := by decide +kernel
theorem dX6_goAlong_45 : decode cX6_goAlong 45 = .ok (.getfield 28, 3) := by decide +kernel
theorem dX6_goAlong_48 : decode cX6_goAlong 48 = .ok (.getfield 262, 3) := by decide +kernel
theorem dX6_goAlong_51 : decode cX6_goAlong 51 = .ok (.iconst 0, 1) := by decide +kernel
theorem dX6_goAlong_52 : decode cX6_goAlong 52 = .ok (.iaload, 1) := by decide +kernel
theorem dX6_goAlong_53 : decode cX6_goAlong 53 = .ok (.iadd, 1) := by decide +kernel
theorem dX6_goAlong_54 : decode cX6_goAlong 54 = .ok (.iastore, 1) := by decide +kernel
theorem dX6_goAlong_55 : decode cX6_goAlong 55 = .ok (.aload_n 2, 1) := by decide +kernel
theorem dX6_goAlong_56 : decode cX6_goAlong 56 = .ok (.iconst 3, 1) := by decide +kernel
theorem dX6_goAlong_57 : decode cX6_goAlong 57 = .ok (.dup2, 1) := by decide +kernel
theorem dX6_goAlong_58 : decode cX6_goAlong 58 = .ok (.iaload, 1) := by decide +kernel
theorem dX6_goAlong_59 : decode cX6_goAlong 59 = .ok (.aload_n 0, 1) := by decide +kernel
theorem dX6_goAlong_60 : decode cX6_goAlong 60 = .ok (.getfield 28, 3) := by decide +kernel
theorem dX6_goAlong_63 : decode cX6_goAlong 63 = .ok (.getfield 262, 3) := by decide +kernel
theorem dX6_goAlong_66 : decode cX6_goAlong 66 = .ok (.iconst 1, 1) := by decide +kernel
theorem dX6_goAlong_67 : decode cX6_goAlong 67 = .ok (.iaload, 1) := by decide +kernel
theorem dX6_goAlong_68 : decode cX6_goAlong 68 = .ok (.iadd, 1) := by decide +kernel
theorem dX6_goAlong_69 : decode cX6_goAlong 69 = .ok (.iastore, 1) := by decide +kernel
theorem dX6_goAlong_70 : decode cX6_goAlong 70 = .ok (.aload_n 2, 1) := by decide +kernel
theorem dX6_goAlong_71 : decode cX6_goAlong 71 = .ok (.iconst 4, 1) := by decide +kernel
theorem dX6_goAlong_72 : decode cX6_goAlong 72 = .ok (.dup2, 1) := by decide +kernel
theorem dX6_goAlong_73 : decode cX6_goAlong 73 = .ok (.iaload, 1) := by decide +kernel
theorem dX6_goAlong_74 : decode cX6_goAlong 74 = .ok (.iconst 1, 1) := by decide +kernel
theorem dX6_goAlong_75 : decode cX6_goAlong 75 = .ok (.iadd, 1) := by decide +kernel
theorem dX6_goAlong_76 : decode cX6_goAlong 76 = .ok (.iastore, 1) := by decide +kernel
theorem dX6_goAlong_77 : decode cX6_goAlong 77 = .ok (.aload_n 0, 1) := by decide +kernel
theorem dX6_goAlong_78 : decode cX6_goAlong 78 = .ok (.getfield 28, 3) := by decide +kernel
theorem dX6_goAlong_81 : decode cX6_goAlong 81 = .ok (.iload_n 1, 1) := by decide +kernel
theorem dX6_goAlong_82 : decode cX6_goAlong 82 = .ok (.invokevirtual 344, 3) := by decide +kernel
theorem dX6_goAlong_85 : decode cX6_goAlong 85 = .ok (.return_, 1) := by decide +kernel
theorem dX6_hang_0 : decode cX6_hang 0 = .ok (.aload_n 0, 1) := by decide +kernel
theorem dX6_hang_1 : decode cX6_hang 1 = .ok (.iload_n 1, 1) := by decide +kernel
theorem dX6_hang_2 : decode cX6_hang 2 = .ok (.iload_n 2, 1) := by decide +kernel
theorem dX6_hang_3 : decode cX6_hang 3 = .ok (.iload_n 3, 1) := by decide +kernel
theorem dX6_hang_4 : decode cX6_hang 4 = .ok (.iload 4, 2) := by decide +kernel
theorem dX6_hang_6 : decode cX6_hang 6 = .ok (.invokevirtual 238, 3) := by decide +kernel
theorem dX6_hang_9 : decode cX6_hang 9 = .ok (.ifCond .ne 10, 3) := by decide +kernel
theorem dX6_hang_12 : decode cX6_hang 12 = .ok (.aload_n 0, 1) := by decide +kernel
theorem dX6_hang_13 : decode cX6_hang 13 = .ok (.bipush (-2), 2) := by decide +kernel
theorem dX6_hang_15 : decode cX6_hang 15 = .ok (.invokevirtual 70, 3) := by decide +kernel
theorem dX6_hang_18 : decode cX6_hang 18 = .ok (.ireturn, 1) := by decide +kernel
theorem dX6_hang_19 : decode cX6_hang 19 = .ok (.aload_n 0, 1) := by decide +kernel
theorem dX6_hang_20 : decode cX6_hang 20 = .ok (.getfield 10, 3) := by decide +kernel
theorem dX6_hang_23 : decode cX6_hang 23 = .ok (.getfield 273, 3) := by decide +kernel
theorem dX6_hang_26 : decode cX6_hang 26 = .ok (.iconst 1, 1) := by decide +kernel
theorem dX6_hang_27 : decode cX6_hang 27 = .ok (.iaload, 1) := by decide +kernel
theorem dX6_hang_28 : decode cX6_hang 28 = .ok (.ifCond .eq 21, 3) := by decide +kernel
theorem dX6_hang_31 : decode cX6_hang 31 = .ok (.aload_n 0, 1) := by decide +kernel
theorem dX6_hang_32 : decode cX6_hang 32 = .ok (.getfield 28, 3) := by decide +kernel
theorem dX6_hang_35 : decode cX6_hang 35 = .ok (.iload_n 1, 1) := by decide +kernel
theorem dX6_hang_36 : decode cX6_hang 36 = .ok (.iload_n 2, 1) := by decide +kernel
theorem dX6_hang_37 : decode cX6_hang 37 = .ok (.iload_n 3, 1) := by decide +kernel
theorem dX6_hang_38 : decode cX6_hang 38 = .ok (.iload 4, 2) := by decide +kernel
theorem dX6_hang_40 : decode cX6_hang 40 = .ok (.iconst 1, 1) := by decide +kernel
theorem dX6_hang_41 : decode cX6_hang 41 = .ok (.invokevirtual 242, 3) := by decide +kernel
theorem dX6_hang_44 : decode cX6_hang 44 = .ok (.ldc 255, 2) := by decide +kernel
theorem dX6_hang_46 : decode cX6_hang 46 = .ok (.if_icmp .ne 10, 3) := by decide +kernel
theorem dX6_hang_49 : decode cX6_hang 49 = .ok (.aload_n 0, 1) := by decide +kernel
theorem dX6_hang_50 : decode cX6_hang 50 = .ok (.bipush (-5), 2) := by decide +kernel
theorem dX6_hang_52 : decode cX6_hang 52 = .ok (.invokevirtual 70, 3) := by decide +kernel
theorem dX6_hang_55 : decode cX6_hang 55 = .ok (.ireturn, 1) := by decide +kernel
theorem dX6_hang_56 : decode cX6_hang 56 = .ok (.iconst (-1), 1) := by decide +kernel
theorem dX6_hang_57 : decode cX6_hang 57 = .ok (.istore 5, 2) := by decide +kernel
theorem dX6_hang_59 : decode cX6_hang 59 = .ok (.iconst (-1), 1) := by decide +kernel
theorem dX6_hang_60 : decode cX6_hang 60 = .ok (.istore 6, 2) := by decide +kernel
theorem dX6_hang_62 : decode cX6_hang 62 = .ok (.iconst 0, 1) := by decide +kernel
theorem dX6_hang_63 : decode cX6_hang 63 = .ok (.istore 7, 2) := by decide +kernel
theorem dX6_hang_65 : decode cX6_hang 65 = .ok (.iload 7, 2) := by decide +kernel
theorem dX6_hang_67 : decode cX6_hang 67 = .ok (.aload_n 0, 1) := by decide +kernel
theorem dX6_hang_68 : decode cX6_hang 68 = .ok (.getfield 10, 3) := by decide +kernel
theorem dX6_hang_71 : decode cX6_hang 71 = .ok (.getfield 273, 3) := by decide +kernel
theorem dX6_hang_74 : decode cX6_hang 74 = .ok (.iconst 1, 1) := by decide +kernel
theorem dX6_hang_75 : decode cX6_hang 75 = .ok (.iaload, 1) := by decide +kernel
theorem dX6_hang_76 : decode cX6_hang 76 = .ok (.if_icmp .ge 37, 3) := by decide +kernel
theorem dX6_hang_79 : decode cX6_hang 79 = .ok (.aload_n 0, 1) := by decide +kernel
theorem dX6_hang_80 : decode cX6_hang 80 = .ok (.iload 7, 2) := by decide +kernel
theorem dX6_hang_82 : decode cX6_hang 82 = .ok (.iload_n 1, 1) := by decide +kernel
theorem dX6_hang_83 : decode cX6_hang 83 = .ok (.iload_n 2, 1) := by decide +kernel
theorem dX6_hang_84 : decode cX6_hang 84 = .ok (.iload_n 3, 1) := by decide +kernel
theorem dX6_hang_85 : decode cX6_hang 85 = .ok (.iload 4, 2) := by decide +kernel
theorem dX6_hang_87 : decode cX6_hang 87 = .ok (.invokevirtual 276, 3) := by decide +kernel
theorem dX6_hang_90 : decode cX6_hang 90 = .ok (.istore 8, 2) := by decide +kernel
theorem dX6_hang_92 : decode cX6_hang 92 = .ok (.iload 8, 2) := by decide +kernel
theorem dX6_hang_94 : decode cX6_hang 94 = .ok (.iload 6, 2) := by decide +kernel
theorem dX6_hang_96 : decode cX6_hang 96 = .ok (.if_icmp .le 11, 3) := by decide +kernel
theorem dX6_hang_99 : decode cX6_hang 99 = .ok (.iload 8, 2) := by decide +kernel
theorem dX6_hang_101 : decode cX6_hang 101 = .ok (.istore 6, 2) := by decide +kernel
theorem dX6_hang_103 : decode cX6_hang 103 = .ok (.iload 7, 2) := by decide +kernel
theorem dX6_hang_105 : decode cX6_hang 105 = .ok (.istore 5, 2) := by decide +kernel
theorem dX6_hang_107 : decode cX6_hang 107 = .ok (.iinc 7 1, 3) := by decide +kernel
theorem dX6_hang_110 : decode cX6_hang 110 = .ok (.goto (-45), 3) := by decide +kernel
theorem dX6_hang_113 : decode cX6_hang 113 = .ok (.iload 5, 2) := by decide +kernel
theorem dX6_hang_115 : decode cX6_hang 115 = .ok (.ireturn, 1) := by decide +kernel
theorem dX6_heaviest_0 : decode cX6_heaviest 0 = .ok (.aload_n 0, 1) := by decide +kernel
theorem dX6_heaviest_1 : decode cX6_heaviest 1 = .ok (.getfield 10, 3) := by decide +kernel
theorem dX6_heaviest_4 : decode cX6_heaviest 4 = .ok (.getfield 156, 3) := by decide +kernel
theorem dX6_heaviest_7 : decode cX6_heaviest 7 = .ok (.iconst 0, 1) := by decide +kernel
theorem dX6_heaviest_8 : decode cX6_heaviest 8 = .ok (.iconst 0, 1) := by decide +kernel
theorem dX6_heaviest_9 : decode cX6_heaviest 9 = .ok (.iastore, 1) := by decide +kernel
theorem dX6_heaviest_10 : decode cX6_heaviest 10 = .ok (.aload_n 0, 1) := by decide +kernel
theorem dX6_heaviest_11 : decode cX6_heaviest 11 = .ok (.getfield 28, 3) := by decide +kernel
theorem dX6_heaviest_14 : decode cX6_heaviest 14 = .ok (.iload_n 1, 1) := by decide +kernel
theorem dX6_heaviest_15 : decode cX6_heaviest 15 = .ok (.iconst 0, 1) := by decide +kernel
theorem dX6_heaviest_16 : decode cX6_heaviest 16 = .ok (.iload_n 2, 1) := by decide +kernel
theorem dX6_heaviest_17 : decode cX6_heaviest 17 = .ok (.iload_n 3, 1) := by decide +kernel
theorem dX6_heaviest_18 : decode cX6_heaviest 18 = .ok (.invokevirtual 285, 3) := by decide +kernel
theorem dX6_heaviest_21 : decode cX6_heaviest 21 = .ok (.ifCond .ne 5, 3) := by decide +kernel
theorem dX6_heaviest_24 : decode cX6_heaviest 24 = .ok (.iconst (-1), 1) := by decide +kernel
theorem dX6_heaviest_25 : decode cX6_heaviest 25 = .ok (.ireturn, 1) := by decide +kernel
theorem dX6_heaviest_26 : decode cX6_heaviest 26 = .ok (.iconst 0, 1) := by decide +kernel
theorem dX6_heaviest_27 : decode cX6_heaviest 27 = .ok (.istore 4, 2) := by decide +kernel
theorem dX6_heaviest_29 : decode cX6_heaviest 29 = .ok (.sipush 512, 3) := by decide +kernel
theorem dX6_heaviest_32 : decode cX6_heaviest 32 = .ok (.istore 5, 2) := by decide +kernel
theorem dX6_heaviest_34 : decode cX6_heaviest 34 = .ok (.iload 5, 2) := by decide +kernel
theorem dX6_heaviest_36 : decode cX6_heaviest 36 = .ok (.ifCond .le 58, 3) := by decide +kernel
theorem dX6_heaviest_39 : decode cX6_heaviest 39 = .ok (.aload_n 0, 1) := by decide +kernel
theorem dX6_heaviest_40 : decode cX6_heaviest 40 = .ok (.getfield 10, 3) := by decide +kernel
theorem dX6_heaviest_43 : decode cX6_heaviest 43 = .ok (.getfield 156, 3) := by decide +kernel
theorem dX6_heaviest_46 : decode cX6_heaviest 46 = .ok (.iconst 0, 1) := by decide +kernel
theorem dX6_heaviest_47 : decode cX6_heaviest 47 = .ok (.iload 4, 2) := by decide +kernel
theorem dX6_heaviest_49 : decode cX6_heaviest 49 = .ok (.iload 5, 2) := by decide +kernel
theorem dX6_heaviest_51 : decode cX6_heaviest 51 = .ok (.iadd, 1) := by decide +kernel
theorem dX6_heaviest_52 : decode cX6_heaviest 52 = .ok (.iastore, 1) := by decide +kernel
theorem dX6_heaviest_53 : decode cX6_heaviest 53 = .ok (.iload 4, 2) := by decide +kernel
theorem dX6_heaviest_55 : decode cX6_heaviest 55 = .ok (.iload 5, 2) := by decide +kernel
theorem dX6_heaviest_57 : decode cX6_heaviest 57 = .ok (.iadd, 1) := by decide +kernel
theorem dX6_heaviest_58 : decode cX6_heaviest 58 = .ok (.sipush 900, 3) := by decide +kernel
theorem dX6_heaviest_61 : decode cX6_heaviest 61 = .ok (.if_icmp .gt 24, 3) := by decide +kernel
theorem dX6_heaviest_64 : decode cX6_heaviest 64 = .ok (.aload_n 0, 1) := by decide +kernel
theorem dX6_heaviest_65 : decode cX6_heaviest 65 = .ok (.getfield 28, 3) := by decide +kernel
theorem dX6_heaviest_68 : decode cX6_heaviest 68 = .ok (.iload_n 1, 1) := by decide +kernel
theorem dX6_heaviest_69 : decode cX6_heaviest 69 = .ok (.iconst 0, 1) := by decide +kernel
theorem dX6_heaviest_70 : decode cX6_heaviest 70 = .ok (.iload_n 2, 1) := by decide +kernel
theorem dX6_heaviest_71 : decode cX6_heaviest 71 = .ok (.iload_n 3, 1) := by decide +kernel
theorem dX6_heaviest_72 : decode cX6_heaviest 72 = .ok (.invokevirtual 285, 3) := by decide +kernel
theorem dX6_heaviest_75 : decode cX6_heaviest 75 = .ok (.ifCond .eq 10, 3) := by decide +kernel
theorem dX6_heaviest_78 : decode cX6_heaviest 78 = .ok (.iload 4, 2) := by decide +kernel
theorem dX6_heaviest_80 : decode cX6_heaviest 80 = .ok (.iload 5, 2) := by decide +kernel
theorem dX6_heaviest_82 : decode cX6_heaviest 82 = .ok (.iadd, 1) := by decide +kernel
theorem dX6_heaviest_83 : decode cX6_heaviest 83 = .ok (.istore 4, 2) := by decide +kernel
theorem dX6_heaviest_85 : decode cX6_heaviest 85 = .ok (.iload 5, 2) := by decide +kernel
theorem dX6_heaviest_87 : decode cX6_heaviest 87 = .ok (.iconst 2, 1) := by decide +kernel
theorem dX6_heaviest_88 : decode cX6_heaviest 88 = .ok (.idiv, 1) := by decide +kernel
theorem dX6_heaviest_89 : decode cX6_heaviest 89 = .ok (.istore 5, 2) := by decide +kernel
theorem dX6_heaviest_91 : decode cX6_heaviest 91 = .ok (.goto (-57), 3) := by decide +kernel
theorem dX6_heaviest_94 : decode cX6_heaviest 94 = .ok (.iload 4, 2) := by decide +kernel
theorem dX6_heaviest_96 : decode cX6_heaviest 96 = .ok (.ireturn, 1) := by decide +kernel
theorem dX6_image_0 : decode cX6_image 0 = .ok (.aload_n 0, 1) := by decide +kernel
theorem dX6_image_1 : decode cX6_image 1 = .ok (.getfield 16, 3) := by decide +kernel
theorem dX6_image_4 : decode cX6_image 4 = .ok (.aload_n 0, 1) := by decide +kernel
theorem dX6_image_5 : decode cX6_image 5 = .ok (.getfield 10, 3) := by decide +kernel
theorem dX6_image_8 : decode cX6_image 8 = .ok (.invokevirtual 314, 3) := by decide +kernel
theorem dX6_image_11 : decode cX6_image 11 = .ok (.aload_n 0, 1) := by decide +kernel
theorem dX6_image_12 : decode cX6_image 12 = .ok (.iconst 1, 1) := by decide +kernel
theorem dX6_image_13 : decode cX6_image 13 = .ok (.putfield 19, 3) := by decide +kernel
theorem dX6_image_16 : decode cX6_image 16 = .ok (.iconst 1, 1) := by decide +kernel
theorem dX6_image_17 : decode cX6_image 17 = .ok (.ireturn, 1) := by decide +kernel
theorem dX6_judge_0 : decode cX6_judge 0 = .ok (.aload_n 0, 1) := by decide +kernel
theorem dX6_judge_1 : decode cX6_judge 1 = .ok (.iload_n 1, 1) := by decide +kernel
theorem dX6_judge_2 : decode cX6_judge 2 = .ok (.iload_n 2, 1) := by decide +kernel
theorem dX6_judge_3 : decode cX6_judge 3 = .ok (.iload_n 3, 1) := by decide +kernel
theorem dX6_judge_4 : decode cX6_judge 4 = .ok (.iload 4, 2) := by decide +kernel
theorem dX6_judge_6 : decode cX6_judge 6 = .ok (.iload 5, 2) := by decide +kernel
theorem dX6_judge_8 : decode cX6_judge 8 = .ok (.invokevirtual 256, 3) := by decide +kernel
theorem dX6_judge_11 : decode cX6_judge 11 = .ok (.istore 6, 2) := by decide +kernel
theorem dX6_judge_13 : decode cX6_judge 13 = .ok (.iload 6, 2) := by decide +kernel
theorem dX6_judge_15 : decode cX6_judge 15 = .ok (.ifCond .eq 10, 3) := by decide +kernel
theorem dX6_judge_18 : decode cX6_judge 18 = .ok (.aload_n 0, 1) := by decide +kernel
theorem dX6_judge_19 : decode cX6_judge 19 = .ok (.iload 6, 2) := by decide +kernel
theorem dX6_judge_21 : decode cX6_judge 21 = .ok (.invokevirtual 70, 3) := by decide +kernel
theorem dX6_judge_24 : decode cX6_judge 24 = .ok (.ireturn, 1) := by decide +kernel
theorem dX6_judge_25 : decode cX6_judge 25 = .ok (.aload_n 0, 1) := by decide +kernel
theorem dX6_judge_26 : decode cX6_judge 26 = .ok (.getfield 28, 3) := by decide +kernel
theorem dX6_judge_29 : decode cX6_judge 29 = .ok (.iload_n 1, 1) := by decide +kernel
theorem dX6_judge_30 : decode cX6_judge 30 = .ok (.iload_n 2, 1) := by decide +kernel
theorem dX6_judge_31 : decode cX6_judge 31 = .ok (.invokevirtual 223, 3) := by decide +kernel
theorem dX6_judge_34 : decode cX6_judge 34 = .ok (.aload_n 0, 1) := by decide +kernel
theorem dX6_judge_35 : decode cX6_judge 35 = .ok (.iload_n 3, 1) := by decide +kernel
theorem dX6_judge_36 : decode cX6_judge 36 = .ok (.iload 4, 2) := by decide +kernel
theorem dX6_judge_38 : decode cX6_judge 38 = .ok (.iload 5, 2) := by decide +kernel
theorem dX6_judge_40 : decode cX6_judge 40 = .ok (.invokevirtual 259, 3) := by decide +kernel
theorem dX6_judge_43 : decode cX6_judge 43 = .ok (.ireturn, 1) := by decide +kernel
theorem dX6_most_0 : decode cX6_most 0 = .ok (.aload_n 0, 1) := by decide +kernel
theorem dX6_most_1 : decode cX6_most 1 = .ok (.iload_n 1, 1) := by decide +kernel
theorem dX6_most_2 : decode cX6_most 2 = .ok (.invokevirtual 194, 3) := by decide +kernel
theorem dX6_most_5 : decode cX6_most 5 = .ok (.ifCond .eq 17, 3) := by decide +kernel
theorem dX6_most_8 : decode cX6_most 8 = .ok (.iload_n 2, 1) := by decide +kernel
theorem dX6_most_9 : decode cX6_most 9 = .ok (.invokestatic 126, 3) := by decide +kernel
theorem dX6_most_12 : decode cX6_most 12 = .ok (.ifCond .eq 10, 3) := by decide +kernel
theorem dX6_most_15 : decode cX6_most 15 = .ok (.iload_n 3, 1) := by decide +kernel
theorem dX6_most_16 : decode cX6_most 16 = .ok (.invokestatic 126, 3) := by decide +kernel
theorem dX6_most_19 : decode cX6_most 19 = .ok (.ifCond .ne 10, 3) := by decide +kernel
theorem dX6_most_22 : decode cX6_most 22 = .ok (.aload_n 0, 1) := by decide +kernel
theorem dX6_most_23 : decode cX6_most 23 = .ok (.bipush (-2), 2) := by decide +kernel
theorem dX6_most_25 : decode cX6_most 25 = .ok (.invokevirtual 70, 3) := by decide +kernel
theorem dX6_most_28 : decode cX6_most 28 = .ok (.ireturn, 1) := by decide +kernel
theorem dX6_most_29 : decode cX6_most 29 = .ok (.aload_n 0, 1) := by decide +kernel
theorem dX6_most_30 : decode cX6_most 30 = .ok (.getfield 10, 3) := by decide +kernel
theorem dX6_most_33 : decode cX6_most 33 = .ok (.getfield 156, 3) := by decide +kernel
theorem dX6_most_36 : decode cX6_most 36 = .ok (.iconst 0, 1) := by decide +kernel
theorem dX6_most_37 : decode cX6_most 37 = .ok (.iaload, 1) := by decide +kernel
theorem dX6_most_38 : decode cX6_most 38 = .ok (.istore 4, 2) := by decide +kernel
theorem dX6_most_40 : decode cX6_most 40 = .ok (.aload_n 0, 1) := by decide +kernel
theorem dX6_most_41 : decode cX6_most 41 = .ok (.iload_n 1, 1) := by decide +kernel
theorem dX6_most_42 : decode cX6_most 42 = .ok (.iload_n 2, 1) := by decide +kernel
theorem dX6_most_43 : decode cX6_most 43 = .ok (.iload_n 3, 1) := by decide +kernel
theorem dX6_most_44 : decode cX6_most 44 = .ok (.invokevirtual 288, 3) := by decide +kernel
theorem dX6_most_47 : decode cX6_most 47 = .ok (.istore 5, 2) := by decide +kernel
theorem dX6_most_49 : decode cX6_most 49 = .ok (.aload_n 0, 1) := by decide +kernel
theorem dX6_most_50 : decode cX6_most 50 = .ok (.getfield 10, 3) := by decide +kernel
theorem dX6_most_53 : decode cX6_most 53 = .ok (.getfield 156, 3) := by decide +kernel
theorem dX6_most_56 : decode cX6_most 56 = .ok (.iconst 0, 1) := by decide +kernel
theorem dX6_most_57 : decode cX6_most 57 = .ok (.iload 4, 2) := by decide +kernel
theorem dX6_most_59 : decode cX6_most 59 = .ok (.iastore, 1) := by decide +kernel
theorem dX6_most_60 : decode cX6_most 60 = .ok (.iload 5, 2) := by decide +kernel
theorem dX6_most_62 : decode cX6_most 62 = .ok (.iconst (-1), 1) := by decide +kernel
theorem dX6_most_63 : decode cX6_most 63 = .ok (.if_icmp .ne 12, 3) := by decide +kernel
theorem dX6_most_66 : decode cX6_most 66 = .ok (.aload_n 0, 1) := by decide +kernel
theorem dX6_most_67 : decode cX6_most 67 = .ok (.bipush (-5), 2) := by decide +kernel
theorem dX6_most_69 : decode cX6_most 69 = .ok (.invokevirtual 70, 3) := by decide +kernel
theorem dX6_most_72 : decode cX6_most 72 = .ok (.goto 5, 3) := by decide +kernel
theorem dX6_most_75 : decode cX6_most 75 = .ok (.iload 5, 2) := by decide +kernel
theorem dX6_most_77 : decode cX6_most 77 = .ok (.ireturn, 1) := by decide +kernel
theorem dX6_reach_0 : decode cX6_reach 0 = .ok (.aload_n 0, 1) := by decide +kernel
theorem dX6_reach_1 : decode cX6_reach 1 = .ok (.iload_n 1, 1) := by decide +kernel
theorem dX6_reach_2 : decode cX6_reach 2 = .ok (.iload_n 2, 1) := by decide +kernel
theorem dX6_reach_3 : decode cX6_reach 3 = .ok (.invokevirtual 200, 3) := by decide +kernel
theorem dX6_reach_6 : decode cX6_reach 6 = .ok (.ifCond .eq 10, 3) := by decide +kernel
theorem dX6_reach_9 : decode cX6_reach 9 = .ok (.iload_n 3, 1) := by decide +kernel
theorem dX6_reach_10 : decode cX6_reach 10 = .ok (.invokestatic 126, 3) := by decide +kernel
theorem dX6_reach_13 : decode cX6_reach 13 = .ok (.ifCond .ne 10, 3) := by decide +kernel
theorem dX6_reach_16 : decode cX6_reach 16 = .ok (.aload_n 0, 1) := by decide +kernel
theorem dX6_reach_17 : decode cX6_reach 17 = .ok (.bipush (-2), 2) := by decide +kernel
theorem dX6_reach_19 : decode cX6_reach 19 = .ok (.invokevirtual 70, 3) := by decide +kernel
theorem dX6_reach_22 : decode cX6_reach 22 = .ok (.ireturn, 1) := by decide +kernel
theorem dX6_reach_23 : decode cX6_reach 23 = .ok (.aload_n 0, 1) := by decide +kernel
theorem dX6_reach_24 : decode cX6_reach 24 = .ok (.getfield 28, 3) := by decide +kernel
theorem dX6_reach_27 : decode cX6_reach 27 = .ok (.iload_n 1, 1) := by decide +kernel
theorem dX6_reach_28 : decode cX6_reach 28 = .ok (.iload_n 2, 1) := by decide +kernel
theorem dX6_reach_29 : decode cX6_reach 29 = .ok (.iload_n 3, 1) := by decide +kernel
theorem dX6_reach_30 : decode cX6_reach 30 = .ok (.invokevirtual 270, 3) := by decide +kernel
theorem dX6_reach_33 : decode cX6_reach 33 = .ok (.ireturn, 1) := by decide +kernel
theorem dX6_soonest_0 : decode cX6_soonest 0 = .ok (.aload_n 0, 1) := by decide +kernel
theorem dX6_soonest_1 : decode cX6_soonest 1 = .ok (.iload_n 1, 1) := by decide +kernel
theorem dX6_soonest_2 : decode cX6_soonest 2 = .ok (.iload_n 2, 1) := by decide +kernel
theorem dX6_soonest_3 : decode cX6_soonest 3 = .ok (.iload_n 3, 1) := by decide +kernel
theorem dX6_soonest_4 : decode cX6_soonest 4 = .ok (.iload 4, 2) := by decide +kernel
theorem dX6_soonest_6 : decode cX6_soonest 6 = .ok (.invokevirtual 238, 3) := by decide +kernel
theorem dX6_soonest_9 : decode cX6_soonest 9 = .ok (.ifCond .ne 10, 3) := by decide +kernel
theorem dX6_soonest_12 : decode cX6_soonest 12 = .ok (.aload_n 0, 1) := by decide +kernel
theorem dX6_soonest_13 : decode cX6_soonest 13 = .ok (.bipush (-2), 2) := by decide +kernel
theorem dX6_soonest_15 : decode cX6_soonest 15 = .ok (.invokevirtual 70, 3) := by decide +kernel
theorem dX6_soonest_18 : decode cX6_soonest 18 = .ok (.ireturn, 1) := by decide +kernel
theorem dX6_soonest_19 : decode cX6_soonest 19 = .ok (.aload_n 0, 1) := by decide +kernel
theorem dX6_soonest_20 : decode cX6_soonest 20 = .ok (.aload_n 0, 1) := by decide +kernel
theorem dX6_soonest_21 : decode cX6_soonest 21 = .ok (.getfield 28, 3) := by decide +kernel
theorem dX6_soonest_24 : decode cX6_soonest 24 = .ok (.iload_n 1, 1) := by decide +kernel
theorem dX6_soonest_25 : decode cX6_soonest 25 = .ok (.iload_n 2, 1) := by decide +kernel
theorem dX6_soonest_26 : decode cX6_soonest 26 = .ok (.iload_n 3, 1) := by decide +kernel
theorem dX6_soonest_27 : decode cX6_soonest 27 = .ok (.iload 4, 2) := by decide +kernel
theorem dX6_soonest_29 : decode cX6_soonest 29 = .ok (.invokevirtual 248, 3) := by decide +kernel
theorem dX6_soonest_32 : decode cX6_soonest 32 = .ok (.invokevirtual 245, 3) := by decide +kernel
theorem dX6_soonest_35 : decode cX6_soonest 35 = .ok (.ireturn, 1) := by decide +kernel
theorem dX6_status_0 : decode cX6_status 0 = .ok (.iload_n 1, 1) := by decide +kernel
theorem dX6_status_1 : decode cX6_status 1 = .ok (.iconst 0, 1) := by decide +kernel
theorem dX6_status_2 : decode cX6_status 2 = .ok (.iconst 3, 1) := by decide +kernel
theorem dX6_status_3 : decode cX6_status 3 = .ok (.invokestatic 66, 3) := by decide +kernel
theorem dX6_status_6 : decode cX6_status 6 = .ok (.ifCond .eq 13, 3) := by decide +kernel
theorem dX6_status_9 : decode cX6_status 9 = .ok (.aload_n 0, 1) := by decide +kernel
theorem dX6_status_10 : decode cX6_status 10 = .ok (.getfield 10, 3) := by decide +kernel
theorem dX6_status_13 : decode cX6_status 13 = .ok (.getfield 273, 3) := by decide +kernel
theorem dX6_status_16 : decode cX6_status 16 = .ok (.iload_n 1, 1) := by decide +kernel
theorem dX6_status_17 : decode cX6_status 17 = .ok (.iaload, 1) := by decide +kernel
theorem dX6_status_18 : decode cX6_status 18 = .ok (.ireturn, 1) := by decide +kernel
theorem dX6_status_19 : decode cX6_status 19 = .ok (.iload_n 1, 1) := by decide +kernel
theorem dX6_status_20 : decode cX6_status 20 = .ok (.bipush 12, 2) := by decide +kernel
theorem dX6_status_22 : decode cX6_status 22 = .ok (.bipush 16, 2) := by decide +kernel
theorem dX6_status_24 : decode cX6_status 24 = .ok (.invokestatic 66, 3) := by decide +kernel
theorem dX6_status_27 : decode cX6_status 27 = .ok (.ifCond .eq 13, 3) := by decide +kernel
theorem dX6_status_30 : decode cX6_status 30 = .ok (.aload_n 0, 1) := by decide +kernel
theorem dX6_status_31 : decode cX6_status 31 = .ok (.getfield 55, 3) := by decide +kernel
theorem dX6_status_34 : decode cX6_status 34 = .ok (.iload_n 1, 1) := by decide +kernel
theorem dX6_status_35 : decode cX6_status 35 = .ok (.bipush 12, 2) := by decide +kernel
theorem dX6_status_37 : decode cX6_status 37 = .ok (.isub, 1) := by decide +kernel
theorem dX6_status_38 : decode cX6_status 38 = .ok (.iaload, 1) := by decide +kernel
theorem dX6_status_39 : decode cX6_status 39 = .ok (.ireturn, 1) := by decide +kernel
theorem dX6_status_40 : decode cX6_status 40 = .ok (.iload_n 1, 1) := by decide +kernel
theorem dX6_status_41 : decode cX6_status 41 = .ok (.tableswitch 67 4 7 #[31, 39, 47, 57], 31) := by decide +kernel
theorem dX6_status_72 : decode cX6_status 72 = .ok (.aload_n 0, 1) := by decide +kernel
theorem dX6_status_73 : decode cX6_status 73 = .ok (.getfield 42, 3) := by decide +kernel
theorem dX6_status_76 : decode cX6_status 76 = .ok (.getfield 171, 3) := by decide +kernel
theorem dX6_status_79 : decode cX6_status 79 = .ok (.ireturn, 1) := by decide +kernel
theorem dX6_status_80 : decode cX6_status 80 = .ok (.aload_n 0, 1) := by decide +kernel
theorem dX6_status_81 : decode cX6_status 81 = .ok (.getfield 35, 3) := by decide +kernel
theorem dX6_status_84 : decode cX6_status 84 = .ok (.invokevirtual 320, 3) := by decide +kernel
theorem dX6_status_87 : decode cX6_status 87 = .ok (.ireturn, 1) := by decide +kernel
theorem dX6_status_88 : decode cX6_status 88 = .ok (.aload_n 0, 1) := by decide +kernel
theorem dX6_status_89 : decode cX6_status 89 = .ok (.getfield 10, 3) := by decide +kernel
theorem dX6_status_92 : decode cX6_status 92 = .ok (.bipush 7, 2) := by decide +kernel
theorem dX6_status_94 : decode cX6_status 94 = .ok (.invokevirtual 323, 3) := by decide +kernel
theorem dX6_status_97 : decode cX6_status 97 = .ok (.ireturn, 1) := by decide +kernel
theorem dX6_status_98 : decode cX6_status 98 = .ok (.aload_n 0, 1) := by decide +kernel
theorem dX6_status_99 : decode cX6_status 99 = .ok (.getfield 10, 3) := by decide +kernel
theorem dX6_status_102 : decode cX6_status 102 = .ok (.bipush 8, 2) := by decide +kernel
theorem dX6_status_104 : decode cX6_status 104 = .ok (.invokevirtual 323, 3) := by decide +kernel
theorem dX6_status_107 : decode cX6_status 107 = .ok (.ireturn, 1) := by decide +kernel
theorem dX6_status_108 : decode cX6_status 108 = .ok (.iconst (-1), 1) := by decide +kernel
theorem dX6_status_109 : decode cX6_status 109 = .ok (.ireturn, 1) := by decide +kernel
theorem dX6_step_0 : decode cX6_step 0 = .ok (.aload_n 0, 1) := by decide +kernel
theorem dX6_step_1 : decode cX6_step 1 = .ok (.getfield 10, 3) := by decide +kernel
theorem dX6_step_4 : decode cX6_step 4 = .ok (.getfield 301, 3) := by decide +kernel
theorem dX6_step_7 : decode cX6_step 7 = .ok (.astore_n 1, 1) := by decide +kernel
theorem dX6_step_8 : decode cX6_step 8 = .ok (.aload_n 0, 1) := by decide +kernel
theorem dX6_step_9 : decode cX6_step 9 = .ok (.getfield 10, 3) := by decide +kernel
theorem dX6_step_12 : decode cX6_step 12 = .ok (.getfield 304, 3) := by decide +kernel
theorem dX6_step_15 : decode cX6_step 15 = .ok (.ifCond .eq 12, 3) := by decide +kernel
theorem dX6_step_18 : decode cX6_step 18 = .ok (.aload_n 1, 1) := by decide +kernel
theorem dX6_step_19 : decode cX6_step 19 = .ok (.iconst 0, 1) := by decide +kernel
theorem dX6_step_20 : decode cX6_step 20 = .ok (.iaload, 1) := by decide +kernel
theorem dX6_step_21 : decode cX6_step 21 = .ok (.aload_n 1, 1) := by decide +kernel
theorem dX6_step_22 : decode cX6_step 22 = .ok (.iconst 1, 1) := by decide +kernel
theorem dX6_step_23 : decode cX6_step 23 = .ok (.iaload, 1) := by decide +kernel
theorem dX6_step_24 : decode cX6_step 24 = .ok (.if_icmp .ne 10, 3) := by decide +kernel
theorem dX6_step_27 : decode cX6_step 27 = .ok (.aload_n 0, 1) := by decide +kernel
theorem dX6_step_28 : decode cX6_step 28 = .ok (.bipush (-5), 2) := by decide +kernel
theorem dX6_step_30 : decode cX6_step 30 = .ok (.invokevirtual 70, 3) := by decide +kernel
theorem dX6_step_33 : decode cX6_step 33 = .ok (.ireturn, 1) := by decide +kernel
theorem dX6_step_34 : decode cX6_step 34 = .ok (.aload_n 0, 1) := by decide +kernel
theorem dX6_step_35 : decode cX6_step 35 = .ok (.getfield 28, 3) := by decide +kernel
theorem dX6_step_38 : decode cX6_step 38 = .ok (.aload_n 1, 1) := by decide +kernel
theorem dX6_step_39 : decode cX6_step 39 = .ok (.iconst 5, 1) := by decide +kernel
theorem dX6_step_40 : decode cX6_step 40 = .ok (.iaload, 1) := by decide +kernel
theorem dX6_step_41 : decode cX6_step 41 = .ok (.aload_n 1, 1) := by decide +kernel
theorem dX6_step_42 : decode cX6_step 42 = .ok (.bipush 6, 2) := by decide +kernel
theorem dX6_step_44 : decode cX6_step 44 = .ok (.iaload, 1) := by decide +kernel
theorem dX6_step_45 : decode cX6_step 45 = .ok (.aload_n 1, 1) := by decide +kernel
theorem dX6_step_46 : decode cX6_step 46 = .ok (.iconst 0, 1) := by decide +kernel
theorem dX6_step_47 : decode cX6_step 47 = .ok (.iaload, 1) := by decide +kernel
theorem dX6_step_48 : decode cX6_step 48 = .ok (.aload_n 1, 1) := by decide +kernel
theorem dX6_step_49 : decode cX6_step 49 = .ok (.iconst 1, 1) := by decide +kernel
theorem dX6_step_50 : decode cX6_step 50 = .ok (.iaload, 1) := by decide +kernel
theorem dX6_step_51 : decode cX6_step 51 = .ok (.invokevirtual 307, 3) := by decide +kernel
theorem dX6_step_54 : decode cX6_step 54 = .ok (.istore_n 2, 1) := by decide +kernel
theorem dX6_step_55 : decode cX6_step 55 = .ok (.iload_n 2, 1) := by decide +kernel
theorem dX6_step_56 : decode cX6_step 56 = .ok (.iconst (-1), 1) := by decide +kernel
theorem dX6_step_57 : decode cX6_step 57 = .ok (.if_icmp .ne 10, 3) := by decide +kernel
theorem dX6_step_60 : decode cX6_step 60 = .ok (.aload_n 0, 1) := by decide +kernel
theorem dX6_step_61 : decode cX6_step 61 = .ok (.bipush (-5), 2) := by decide +kernel
theorem dX6_step_63 : decode cX6_step 63 = .ok (.invokevirtual 70, 3) := by decide +kernel
theorem dX6_step_66 : decode cX6_step 66 = .ok (.ireturn, 1) := by decide +kernel
theorem dX6_step_67 : decode cX6_step 67 = .ok (.aload_n 0, 1) := by decide +kernel
theorem dX6_step_68 : decode cX6_step 68 = .ok (.iload_n 2, 1) := by decide +kernel
theorem dX6_step_69 : decode cX6_step 69 = .ok (.invokevirtual 310, 3) := by decide +kernel
theorem dX6_step_72 : decode cX6_step 72 = .ok (.iload_n 2, 1) := by decide +kernel
theorem dX6_step_73 : decode cX6_step 73 = .ok (.ireturn, 1) := by decide +kernel
theorem dX6_told_0 : decode cX6_told 0 = .ok (.iload 6, 2) := by decide +kernel
theorem dX6_told_2 : decode cX6_told 2 = .ok (.iconst 0, 1) := by decide +kernel
theorem dX6_told_3 : decode cX6_told 3 = .ok (.iconst 3, 1) := by decide +kernel
theorem dX6_told_4 : decode cX6_told 4 = .ok (.invokestatic 66, 3) := by decide +kernel
theorem dX6_told_7 : decode cX6_told 7 = .ok (.ifCond .eq 17, 3) := by decide +kernel
theorem dX6_told_10 : decode cX6_told 10 = .ok (.aload_n 0, 1) := by decide +kernel
theorem dX6_told_11 : decode cX6_told 11 = .ok (.iload_n 1, 1) := by decide +kernel
theorem dX6_told_12 : decode cX6_told 12 = .ok (.iload_n 2, 1) := by decide +kernel
theorem dX6_told_13 : decode cX6_told 13 = .ok (.iload_n 3, 1) := by decide +kernel
theorem dX6_told_14 : decode cX6_told 14 = .ok (.iload 4, 2) := by decide +kernel
theorem dX6_told_16 : decode cX6_told 16 = .ok (.iload 5, 2) := by decide +kernel
theorem dX6_told_18 : decode cX6_told 18 = .ok (.invokevirtual 256, 3) := by decide +kernel
theorem dX6_told_21 : decode cX6_told 21 = .ok (.goto 5, 3) := by decide +kernel
theorem dX6_told_24 : decode cX6_told 24 = .ok (.bipush (-2), 2) := by decide +kernel
theorem dX6_told_26 : decode cX6_told 26 = .ok (.istore 7, 2) := by decide +kernel
theorem dX6_told_28 : decode cX6_told 28 = .ok (.iload 7, 2) := by decide +kernel
theorem dX6_told_30 : decode cX6_told 30 = .ok (.ifCond .eq 10, 3) := by decide +kernel
theorem dX6_told_33 : decode cX6_told 33 = .ok (.aload_n 0, 1) := by decide +kernel
theorem dX6_told_34 : decode cX6_told 34 = .ok (.iload 7, 2) := by decide +kernel
theorem dX6_told_36 : decode cX6_told 36 = .ok (.invokevirtual 70, 3) := by decide +kernel
theorem dX6_told_39 : decode cX6_told 39 = .ok (.ireturn, 1) := by decide +kernel
theorem dX6_told_40 : decode cX6_told 40 = .ok (.aload_n 0, 1) := by decide +kernel
theorem dX6_told_41 : decode cX6_told 41 = .ok (.getfield 28, 3) := by decide +kernel
theorem dX6_told_44 : decode cX6_told 44 = .ok (.iload_n 1, 1) := by decide +kernel
theorem dX6_told_45 : decode cX6_told 45 = .ok (.iload_n 2, 1) := by decide +kernel
theorem dX6_told_46 : decode cX6_told 46 = .ok (.invokevirtual 223, 3) := by decide +kernel
theorem dX6_told_49 : decode cX6_told 49 = .ok (.aload_n 0, 1) := by decide +kernel
theorem dX6_told_50 : decode cX6_told 50 = .ok (.iload_n 3, 1) := by decide +kernel
theorem dX6_told_51 : decode cX6_told 51 = .ok (.iload 4, 2) := by decide +kernel
theorem dX6_told_53 : decode cX6_told 53 = .ok (.iload 5, 2) := by decide +kernel
theorem dX6_told_55 : decode cX6_told 55 = .ok (.invokevirtual 259, 3) := by decide +kernel
theorem dX6_told_58 : decode cX6_told 58 = .ok (.iconst (-1), 1) := by decide +kernel
theorem dX6_told_59 : decode cX6_told 59 = .ok (.if_icmp .eq 10, 3) := by decide +kernel
theorem dX6_told_62 : decode cX6_told 62 = .ok (.aload_n 0, 1) := by decide +kernel
theorem dX6_told_63 : decode cX6_told 63 = .ok (.bipush (-5), 2) := by decide +kernel
theorem dX6_told_65 : decode cX6_told 65 = .ok (.invokevirtual 70, 3) := by decide +kernel
theorem dX6_told_68 : decode cX6_told 68 = .ok (.ireturn, 1) := by decide +kernel
theorem dX6_told_69 : decode cX6_told 69 = .ok (.iload 6, 2) := by decide +kernel
theorem dX6_told_71 : decode cX6_told 71 = .ok (.iconst 2, 1) := by decide +kernel
theorem dX6_told_72 : decode cX6_told 72 = .ok (.if_icmp .ne 18, 3) := by decide +kernel
theorem dX6_told_75 : decode cX6_told 75 = .ok (.aload_n 0, 1) := by decide +kernel
theorem dX6_told_76 : decode cX6_told 76 = .ok (.getfield 28, 3) := by decide +kernel
theorem dX6_told_79 : decode cX6_told 79 = .ok (.getfield 262, 3) := by decide +kernel
theorem dX6_told_82 : decode cX6_told 82 = .ok (.iconst 2, 1) := by decide +kernel
theorem dX6_told_83 : decode cX6_told 83 = .ok (.iaload, 1) := by decide +kernel
theorem dX6_told_84 : decode cX6_told 84 = .ok (.invokestatic 265, 3) := by decide +kernel
theorem dX6_told_87 : decode cX6_told 87 = .ok (.goto 13, 3) := by decide +kernel
theorem dX6_told_90 : decode cX6_told 90 = .ok (.aload_n 0, 1) := by decide +kernel
theorem dX6_told_91 : decode cX6_told 91 = .ok (.getfield 28, 3) := by decide +kernel
theorem dX6_told_94 : decode cX6_told 94 = .ok (.getfield 262, 3) := by decide +kernel
theorem dX6_told_97 : decode cX6_told 97 = .ok (.iload 6, 2) := by decide +kernel
theorem dX6_told_99 : decode cX6_told 99 = .ok (.iaload, 1) := by decide +kernel
theorem dX6_told_100 : decode cX6_told 100 = .ok (.ireturn, 1) := by decide +kernel
theorem dX6_under_0 : decode cX6_under 0 = .ok (.iload_n 1, 1) := by decide +kernel
theorem dX6_under_1 : decode cX6_under 1 = .ok (.iconst 0, 1) := by decide +kernel
theorem dX6_under_2 : decode cX6_under 2 = .ok (.iconst 4, 1) := by decide +kernel
theorem dX6_under_3 : decode cX6_under 3 = .ok (.invokestatic 66, 3) := by decide +kernel
theorem dX6_under_6 : decode cX6_under 6 = .ok (.ifCond .ne 10, 3) := by decide +kernel
theorem dX6_under_9 : decode cX6_under 9 = .ok (.aload_n 0, 1) := by decide +kernel
theorem dX6_under_10 : decode cX6_under 10 = .ok (.bipush (-2), 2) := by decide +kernel
theorem dX6_under_12 : decode cX6_under 12 = .ok (.invokevirtual 70, 3) := by decide +kernel
theorem dX6_under_15 : decode cX6_under 15 = .ok (.ireturn, 1) := by decide +kernel
theorem dX6_under_16 : decode cX6_under 16 = .ok (.aload_n 0, 1) := by decide +kernel
theorem dX6_under_17 : decode cX6_under 17 = .ok (.getfield 10, 3) := by decide +kernel
theorem dX6_under_20 : decode cX6_under 20 = .ok (.getfield 304, 3) := by decide +kernel
theorem dX6_under_23 : decode cX6_under 23 = .ok (.ifCond .eq 15, 3) := by decide +kernel
theorem dX6_under_26 : decode cX6_under 26 = .ok (.aload_n 0, 1) := by decide +kernel
theorem dX6_under_27 : decode cX6_under 27 = .ok (.getfield 10, 3) := by decide +kernel
theorem dX6_under_30 : decode cX6_under 30 = .ok (.getfield 301, 3) := by decide +kernel
theorem dX6_under_33 : decode cX6_under 33 = .ok (.iload_n 1, 1) := by decide +kernel
theorem dX6_under_34 : decode cX6_under 34 = .ok (.iaload, 1) := by decide +kernel
theorem dX6_under_35 : decode cX6_under 35 = .ok (.goto 9, 3) := by decide +kernel
theorem dX6_under_38 : decode cX6_under 38 = .ok (.aload_n 0, 1) := by decide +kernel
theorem dX6_under_39 : decode cX6_under 39 = .ok (.bipush (-5), 2) := by decide +kernel
theorem dX6_under_41 : decode cX6_under 41 = .ok (.invokevirtual 70, 3) := by decide +kernel
theorem dX6_under_44 : decode cX6_under 44 = .ok (.ireturn, 1) := by decide +kernel
theorem dX6_valueOfWaiting_0 : decode cX6_valueOfWaiting 0 = .ok (.lload_n 0, 1) := by decide +kernel
theorem dX6_valueOfWaiting_1 : decode cX6_valueOfWaiting 1 = .ok (.lstore 7, 2) := by decide +kernel
theorem dX6_valueOfWaiting_3 : decode cX6_valueOfWaiting 3 = .ok (.lconst 1, 1) := by decide +kernel
theorem dX6_valueOfWaiting_4 : decode cX6_valueOfWaiting 4 = .ok (.lstore 9, 2) := by decide +kernel
theorem dX6_valueOfWaiting_6 : decode cX6_valueOfWaiting 6 = .ok (.iconst 0, 1) := by decide +kernel
theorem dX6_valueOfWaiting_7 : decode cX6_valueOfWaiting 7 = .ok (.istore 11, 2) := by decide +kernel
theorem dX6_valueOfWaiting_9 : decode cX6_valueOfWaiting 9 = .ok (.iload 11, 2) := by decide +kernel
theorem dX6_valueOfWaiting_11 : decode cX6_valueOfWaiting 11 = .ok (.iload 4, 2) := by decide +kernel
theorem dX6_valueOfWaiting_13 : decode cX6_valueOfWaiting 13 = .ok (.if_icmp .ge 55, 3) := by decide +kernel
theorem dX6_valueOfWaiting_16 : decode cX6_valueOfWaiting 16 = .ok (.iload 5, 2) := by decide +kernel
theorem dX6_valueOfWaiting_18 : decode cX6_valueOfWaiting 18 = .ok (.i2l, 1) := by decide +kernel
theorem dX6_valueOfWaiting_19 : decode cX6_valueOfWaiting 19 = .ok (.lload_n 2, 1) := by decide +kernel
theorem dX6_valueOfWaiting_20 : decode cX6_valueOfWaiting 20 = .ok (.lmul, 1) := by decide +kernel
theorem dX6_valueOfWaiting_21 : decode cX6_valueOfWaiting 21 = .ok (.lload 9, 2) := by decide +kernel
theorem dX6_valueOfWaiting_23 : decode cX6_valueOfWaiting 23 = .ok (.lmul, 1) := by decide +kernel
theorem dX6_valueOfWaiting_24 : decode cX6_valueOfWaiting 24 = .ok (.bipush 10, 2) := by decide +kernel
theorem dX6_valueOfWaiting_26 : decode cX6_valueOfWaiting 26 = .ok (.iload 5, 2) := by decide +kernel
theorem dX6_valueOfWaiting_28 : decode cX6_valueOfWaiting 28 = .ok (.isub, 1) := by decide +kernel
theorem dX6_valueOfWaiting_29 : decode cX6_valueOfWaiting 29 = .ok (.i2l, 1) := by decide +kernel
theorem dX6_valueOfWaiting_30 : decode cX6_valueOfWaiting 30 = .ok (.lload 7, 2) := by decide +kernel
theorem dX6_valueOfWaiting_32 : decode cX6_valueOfWaiting 32 = .ok (.lmul, 1) := by decide +kernel
theorem dX6_valueOfWaiting_33 : decode cX6_valueOfWaiting 33 = .ok (.ladd, 1) := by decide +kernel
theorem dX6_valueOfWaiting_34 : decode cX6_valueOfWaiting 34 = .ok (.lstore 12, 2) := by decide +kernel
theorem dX6_valueOfWaiting_36 : decode cX6_valueOfWaiting 36 = .ok (.lload 9, 2) := by decide +kernel
theorem dX6_valueOfWaiting_38 : decode cX6_valueOfWaiting 38 = .ok (.ldc2_w 336, 3) := by decide +kernel
theorem dX6_valueOfWaiting_41 : decode cX6_valueOfWaiting 41 = .ok (.lmul, 1) := by decide +kernel
theorem dX6_valueOfWaiting_42 : decode cX6_valueOfWaiting 42 = .ok (.lstore 9, 2) := by decide +kernel
theorem dX6_valueOfWaiting_44 : decode cX6_valueOfWaiting 44 = .ok (.lload_n 0, 1) := by decide +kernel
theorem dX6_valueOfWaiting_45 : decode cX6_valueOfWaiting 45 = .ok (.lload 9, 2) := by decide +kernel
theorem dX6_valueOfWaiting_47 : decode cX6_valueOfWaiting 47 = .ok (.lmul, 1) := by decide +kernel
theorem dX6_valueOfWaiting_48 : decode cX6_valueOfWaiting 48 = .ok (.iload 6, 2) := by decide +kernel
theorem dX6_valueOfWaiting_50 : decode cX6_valueOfWaiting 50 = .ok (.i2l, 1) := by decide +kernel
theorem dX6_valueOfWaiting_51 : decode cX6_valueOfWaiting 51 = .ok (.lload 9, 2) := by decide +kernel
theorem dX6_valueOfWaiting_53 : decode cX6_valueOfWaiting 53 = .ok (.lmul, 1) := by decide +kernel
theorem dX6_valueOfWaiting_54 : decode cX6_valueOfWaiting 54 = .ok (.lload 12, 2) := by decide +kernel
theorem dX6_valueOfWaiting_56 : decode cX6_valueOfWaiting 56 = .ok (.ladd, 1) := by decide +kernel
theorem dX6_valueOfWaiting_57 : decode cX6_valueOfWaiting 57 = .ok (.invokestatic 338, 3) := by decide +kernel
theorem dX6_valueOfWaiting_60 : decode cX6_valueOfWaiting 60 = .ok (.lstore 7, 2) := by decide +kernel
theorem dX6_valueOfWaiting_62 : decode cX6_valueOfWaiting 62 = .ok (.iinc 11 1, 3) := by decide +kernel
theorem dX6_valueOfWaiting_65 : decode cX6_valueOfWaiting 65 = .ok (.goto (-56), 3) := by decide +kernel
theorem dX6_valueOfWaiting_68 : decode cX6_valueOfWaiting 68 = .ok (.lload 7, 2) := by decide +kernel
theorem dX6_valueOfWaiting_70 : decode cX6_valueOfWaiting 70 = .ok (.lreturn, 1) := by decide +kernel

