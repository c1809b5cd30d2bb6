-- ===== PART A: goes FIRST, ahead of the names: the tables' words, and 'selects' of the private methods out of them =====
/-- a private method of a class that the tables say can be made, by its rows of tables_1 -/
def lw_okq (q : MethodName × Nat) : Prop := (q.1.cls ≠ "java/lang/invoke/MethodHandle" ∧ q.1.cls ≠ "java/lang/invoke/VarHandle") ∧ Cond.instantiable q.1.cls q.2 ∈ tables_1 ∧ Cond.privateMethod q.1 ∈ tables_1 ∧ Cond.instanceMethod q.1 ∈ tables_1
theorem lw_p0 : lw_okq (⟨"OneHeavyLoad", "refuse", "(I)I"⟩, 9) := ⟨⟨by decide +kernel, by decide +kernel⟩, List.mem_of_getElem? (i := 17) (by decide +kernel), List.mem_of_getElem? (i := 232) (by decide +kernel), List.mem_of_getElem? (i := 233) (by decide +kernel)⟩
theorem lw_p1 : lw_okq (⟨"OneHeavyLoad", "whyNoRow", "(I)I"⟩, 9) := ⟨⟨by decide +kernel, by decide +kernel⟩, List.mem_of_getElem? (i := 17) (by decide +kernel), List.mem_of_getElem? (i := 244) (by decide +kernel), List.mem_of_getElem? (i := 245) (by decide +kernel)⟩
theorem lw_p2 : lw_okq (⟨"OneHeavyLoad", "isBridge", "(I)Z"⟩, 9) := ⟨⟨by decide +kernel, by decide +kernel⟩, List.mem_of_getElem? (i := 17) (by decide +kernel), List.mem_of_getElem? (i := 302) (by decide +kernel), List.mem_of_getElem? (i := 303) (by decide +kernel)⟩
theorem lw_p3 : lw_okq (⟨"OneHeavyLoad", "spoken", "(II)I"⟩, 9) := ⟨⟨by decide +kernel, by decide +kernel⟩, List.mem_of_getElem? (i := 17) (by decide +kernel), List.mem_of_getElem? (i := 324) (by decide +kernel), List.mem_of_getElem? (i := 325) (by decide +kernel)⟩
theorem lw_p4 : lw_okq (⟨"OneHeavyLoad$Land", "believed", "(II)I"⟩, 8) := ⟨⟨by decide +kernel, by decide +kernel⟩, List.mem_of_getElem? (i := 25) (by decide +kernel), List.mem_of_getElem? (i := 333) (by decide +kernel), List.mem_of_getElem? (i := 334) (by decide +kernel)⟩
theorem lw_p5 : lw_okq (⟨"OneHeavyLoad", "isRoad", "(I)Z"⟩, 9) := ⟨⟨by decide +kernel, by decide +kernel⟩, List.mem_of_getElem? (i := 17) (by decide +kernel), List.mem_of_getElem? (i := 364) (by decide +kernel), List.mem_of_getElem? (i := 365) (by decide +kernel)⟩
theorem lw_p6 : lw_okq (⟨"OneHeavyLoad$Reader", "readStatement", "()V"⟩, 4) := ⟨⟨by decide +kernel, by decide +kernel⟩, List.mem_of_getElem? (i := 174) (by decide +kernel), List.mem_of_getElem? (i := 448) (by decide +kernel), List.mem_of_getElem? (i := 449) (by decide +kernel)⟩
theorem lw_p7 : lw_okq (⟨"OneHeavyLoad$Reader", "readRoad", "()V"⟩, 4) := ⟨⟨by decide +kernel, by decide +kernel⟩, List.mem_of_getElem? (i := 174) (by decide +kernel), List.mem_of_getElem? (i := 505) (by decide +kernel), List.mem_of_getElem? (i := 506) (by decide +kernel)⟩
theorem lw_p8 : lw_okq (⟨"OneHeavyLoad$Reader", "enter", "(I)V"⟩, 4) := ⟨⟨by decide +kernel, by decide +kernel⟩, List.mem_of_getElem? (i := 174) (by decide +kernel), List.mem_of_getElem? (i := 509) (by decide +kernel), List.mem_of_getElem? (i := 510) (by decide +kernel)⟩
theorem lw_p9 : lw_okq (⟨"OneHeavyLoad$Reader", "number", "(Ljava/lang/String;II)I"⟩, 4) := ⟨⟨by decide +kernel, by decide +kernel⟩, List.mem_of_getElem? (i := 174) (by decide +kernel), List.mem_of_getElem? (i := 535) (by decide +kernel), List.mem_of_getElem? (i := 536) (by decide +kernel)⟩
theorem lw_p10 : lw_okq (⟨"OneHeavyLoad$Reader", "numberIfTold", "(Ljava/lang/String;III)I"⟩, 4) := ⟨⟨by decide +kernel, by decide +kernel⟩, List.mem_of_getElem? (i := 174) (by decide +kernel), List.mem_of_getElem? (i := 545) (by decide +kernel), List.mem_of_getElem? (i := 546) (by decide +kernel)⟩
theorem lw_p11 : lw_okq (⟨"OneHeavyLoad$Reader", "readBridge", "()V"⟩, 4) := ⟨⟨by decide +kernel, by decide +kernel⟩, List.mem_of_getElem? (i := 174) (by decide +kernel), List.mem_of_getElem? (i := 558) (by decide +kernel), List.mem_of_getElem? (i := 559) (by decide +kernel)⟩
theorem lw_p12 : lw_okq (⟨"OneHeavyLoad$Reader", "readWaggon", "()V"⟩, 4) := ⟨⟨by decide +kernel, by decide +kernel⟩, List.mem_of_getElem? (i := 174) (by decide +kernel), List.mem_of_getElem? (i := 570) (by decide +kernel), List.mem_of_getElem? (i := 571) (by decide +kernel)⟩
theorem lw_p13 : lw_okq (⟨"OneHeavyLoad$Reader", "readPart", "()V"⟩, 4) := ⟨⟨by decide +kernel, by decide +kernel⟩, List.mem_of_getElem? (i := 174) (by decide +kernel), List.mem_of_getElem? (i := 578) (by decide +kernel), List.mem_of_getElem? (i := 579) (by decide +kernel)⟩
theorem lw_p14 : lw_okq (⟨"OneHeavyLoad$Reader", "readSetting", "(I)V"⟩, 4) := ⟨⟨by decide +kernel, by decide +kernel⟩, List.mem_of_getElem? (i := 174) (by decide +kernel), List.mem_of_getElem? (i := 584) (by decide +kernel), List.mem_of_getElem? (i := 585) (by decide +kernel)⟩
theorem lw_p15 : lw_okq (⟨"OneHeavyLoad", "isWaggon", "(I)Z"⟩, 9) := ⟨⟨by decide +kernel, by decide +kernel⟩, List.mem_of_getElem? (i := 17) (by decide +kernel), List.mem_of_getElem? (i := 615) (by decide +kernel), List.mem_of_getElem? (i := 616) (by decide +kernel)⟩
def lw_privs_1 : List (MethodName × Nat) := [(⟨"OneHeavyLoad", "refuse", "(I)I"⟩, 9), (⟨"OneHeavyLoad", "whyNoRow", "(I)I"⟩, 9), (⟨"OneHeavyLoad", "isBridge", "(I)Z"⟩, 9), (⟨"OneHeavyLoad", "spoken", "(II)I"⟩, 9), (⟨"OneHeavyLoad$Land", "believed", "(II)I"⟩, 8), (⟨"OneHeavyLoad", "isRoad", "(I)Z"⟩, 9), (⟨"OneHeavyLoad$Reader", "readStatement", "()V"⟩, 4), (⟨"OneHeavyLoad$Reader", "readRoad", "()V"⟩, 4), (⟨"OneHeavyLoad$Reader", "enter", "(I)V"⟩, 4), (⟨"OneHeavyLoad$Reader", "number", "(Ljava/lang/String;II)I"⟩, 4), (⟨"OneHeavyLoad$Reader", "numberIfTold", "(Ljava/lang/String;III)I"⟩, 4), (⟨"OneHeavyLoad$Reader", "readBridge", "()V"⟩, 4), (⟨"OneHeavyLoad$Reader", "readWaggon", "()V"⟩, 4), (⟨"OneHeavyLoad$Reader", "readPart", "()V"⟩, 4), (⟨"OneHeavyLoad$Reader", "readSetting", "(I)V"⟩, 4), (⟨"OneHeavyLoad", "isWaggon", "(I)Z"⟩, 9)]
theorem lw_r1 : ∀ q ∈ lw_privs_1, lw_okq q := List.forall_mem_cons.mpr ⟨lw_p0, List.forall_mem_cons.mpr ⟨lw_p1, List.forall_mem_cons.mpr ⟨lw_p2, List.forall_mem_cons.mpr ⟨lw_p3, List.forall_mem_cons.mpr ⟨lw_p4, List.forall_mem_cons.mpr ⟨lw_p5, List.forall_mem_cons.mpr ⟨lw_p6, List.forall_mem_cons.mpr ⟨lw_p7, List.forall_mem_cons.mpr ⟨lw_p8, List.forall_mem_cons.mpr ⟨lw_p9, List.forall_mem_cons.mpr ⟨lw_p10, List.forall_mem_cons.mpr ⟨lw_p11, List.forall_mem_cons.mpr ⟨lw_p12, List.forall_mem_cons.mpr ⟨lw_p13, List.forall_mem_cons.mpr ⟨lw_p14, List.forall_mem_cons.mpr ⟨lw_p15, fun _ h => absurd h List.not_mem_nil⟩⟩⟩⟩⟩⟩⟩⟩⟩⟩⟩⟩⟩⟩⟩⟩
theorem lw_p16 : lw_okq (⟨"OneHeavyLoad", "isPack", "(II)Z"⟩, 9) := ⟨⟨by decide +kernel, by decide +kernel⟩, List.mem_of_getElem? (i := 17) (by decide +kernel), List.mem_of_getElem? (i := 631) (by decide +kernel), List.mem_of_getElem? (i := 632) (by decide +kernel)⟩
theorem lw_p17 : lw_okq (⟨"OneHeavyLoad", "isJourney", "(IIII)Z"⟩, 9) := ⟨⟨by decide +kernel, by decide +kernel⟩, List.mem_of_getElem? (i := 17) (by decide +kernel), List.mem_of_getElem? (i := 712) (by decide +kernel), List.mem_of_getElem? (i := 713) (by decide +kernel)⟩
theorem lw_p18 : lw_okq (⟨"OneHeavyLoad$Ways", "priceByCoin", "(I)V"⟩, 7) := ⟨⟨by decide +kernel, by decide +kernel⟩, List.mem_of_getElem? (i := 69) (by decide +kernel), List.mem_of_getElem? (i := 721) (by decide +kernel), List.mem_of_getElem? (i := 722) (by decide +kernel)⟩
theorem lw_p19 : lw_okq (⟨"OneHeavyLoad$Ways", "spread", "(I)V"⟩, 7) := ⟨⟨by decide +kernel, by decide +kernel⟩, List.mem_of_getElem? (i := 69) (by decide +kernel), List.mem_of_getElem? (i := 726) (by decide +kernel), List.mem_of_getElem? (i := 727) (by decide +kernel)⟩
theorem lw_p20 : lw_okq (⟨"OneHeavyLoad$Ways", "shorten", "(I)Z"⟩, 7) := ⟨⟨by decide +kernel, by decide +kernel⟩, List.mem_of_getElem? (i := 69) (by decide +kernel), List.mem_of_getElem? (i := 731) (by decide +kernel), List.mem_of_getElem? (i := 732) (by decide +kernel)⟩
theorem lw_p21 : lw_okq (⟨"OneHeavyLoad", "orStuck", "(I)I"⟩, 9) := ⟨⟨by decide +kernel, by decide +kernel⟩, List.mem_of_getElem? (i := 17) (by decide +kernel), List.mem_of_getElem? (i := 735) (by decide +kernel), List.mem_of_getElem? (i := 736) (by decide +kernel)⟩
theorem lw_p22 : lw_okq (⟨"OneHeavyLoad", "findBest", "(II)V"⟩, 9) := ⟨⟨by decide +kernel, by decide +kernel⟩, List.mem_of_getElem? (i := 17) (by decide +kernel), List.mem_of_getElem? (i := 757) (by decide +kernel), List.mem_of_getElem? (i := 758) (by decide +kernel)⟩
theorem lw_p23 : lw_okq (⟨"OneHeavyLoad", "whyNotTold", "(IIIII)I"⟩, 9) := ⟨⟨by decide +kernel, by decide +kernel⟩, List.mem_of_getElem? (i := 17) (by decide +kernel), List.mem_of_getElem? (i := 766) (by decide +kernel), List.mem_of_getElem? (i := 767) (by decide +kernel)⟩
theorem lw_p24 : lw_okq (⟨"OneHeavyLoad", "firstWrong", "(III)I"⟩, 9) := ⟨⟨by decide +kernel, by decide +kernel⟩, List.mem_of_getElem? (i := 17) (by decide +kernel), List.mem_of_getElem? (i := 770) (by decide +kernel), List.mem_of_getElem? (i := 771) (by decide +kernel)⟩
theorem lw_p25 : lw_okq (⟨"OneHeavyLoad$Ways", "otherEnd", "(II)I"⟩, 7) := ⟨⟨by decide +kernel, by decide +kernel⟩, List.mem_of_getElem? (i := 69) (by decide +kernel), List.mem_of_getElem? (i := 782) (by decide +kernel), List.mem_of_getElem? (i := 783) (by decide +kernel)⟩
theorem lw_p26 : lw_okq (⟨"OneHeavyLoad", "coinIfFallen", "(IIIII)I"⟩, 9) := ⟨⟨by decide +kernel, by decide +kernel⟩, List.mem_of_getElem? (i := 17) (by decide +kernel), List.mem_of_getElem? (i := 808) (by decide +kernel), List.mem_of_getElem? (i := 809) (by decide +kernel)⟩
theorem lw_p27 : lw_okq (⟨"OneHeavyLoad", "heaviest", "(III)I"⟩, 9) := ⟨⟨by decide +kernel, by decide +kernel⟩, List.mem_of_getElem? (i := 17) (by decide +kernel), List.mem_of_getElem? (i := 825) (by decide +kernel), List.mem_of_getElem? (i := 826) (by decide +kernel)⟩
theorem lw_p28 : lw_okq (⟨"OneHeavyLoad", "goAlong", "(I)V"⟩, 9) := ⟨⟨by decide +kernel, by decide +kernel⟩, List.mem_of_getElem? (i := 17) (by decide +kernel), List.mem_of_getElem? (i := 856) (by decide +kernel), List.mem_of_getElem? (i := 857) (by decide +kernel)⟩
theorem lw_p29 : lw_okq (⟨"OneHeavyLoadModel", "refuse", "(I)I"⟩, 29) := ⟨⟨by decide +kernel, by decide +kernel⟩, List.mem_of_getElem? (i := 899) (by decide +kernel), List.mem_of_getElem? (i := 1007) (by decide +kernel), List.mem_of_getElem? (i := 1008) (by decide +kernel)⟩
theorem lw_p30 : lw_okq (⟨"OneHeavyLoadModel", "isBridge", "(I)Z"⟩, 29) := ⟨⟨by decide +kernel, by decide +kernel⟩, List.mem_of_getElem? (i := 899) (by decide +kernel), List.mem_of_getElem? (i := 1034) (by decide +kernel), List.mem_of_getElem? (i := 1035) (by decide +kernel)⟩
theorem lw_p31 : lw_okq (⟨"OneHeavyLoadModel", "axleOf", "(I)I"⟩, 29) := ⟨⟨by decide +kernel, by decide +kernel⟩, List.mem_of_getElem? (i := 899) (by decide +kernel), List.mem_of_getElem? (i := 1046) (by decide +kernel), List.mem_of_getElem? (i := 1047) (by decide +kernel)⟩
def lw_privs_2 : List (MethodName × Nat) := [(⟨"OneHeavyLoad", "isPack", "(II)Z"⟩, 9), (⟨"OneHeavyLoad", "isJourney", "(IIII)Z"⟩, 9), (⟨"OneHeavyLoad$Ways", "priceByCoin", "(I)V"⟩, 7), (⟨"OneHeavyLoad$Ways", "spread", "(I)V"⟩, 7), (⟨"OneHeavyLoad$Ways", "shorten", "(I)Z"⟩, 7), (⟨"OneHeavyLoad", "orStuck", "(I)I"⟩, 9), (⟨"OneHeavyLoad", "findBest", "(II)V"⟩, 9), (⟨"OneHeavyLoad", "whyNotTold", "(IIIII)I"⟩, 9), (⟨"OneHeavyLoad", "firstWrong", "(III)I"⟩, 9), (⟨"OneHeavyLoad$Ways", "otherEnd", "(II)I"⟩, 7), (⟨"OneHeavyLoad", "coinIfFallen", "(IIIII)I"⟩, 9), (⟨"OneHeavyLoad", "heaviest", "(III)I"⟩, 9), (⟨"OneHeavyLoad", "goAlong", "(I)V"⟩, 9), (⟨"OneHeavyLoadModel", "refuse", "(I)I"⟩, 29), (⟨"OneHeavyLoadModel", "isBridge", "(I)Z"⟩, 29), (⟨"OneHeavyLoadModel", "axleOf", "(I)I"⟩, 29)]
theorem lw_r2 : ∀ q ∈ lw_privs_2, lw_okq q := List.forall_mem_cons.mpr ⟨lw_p16, List.forall_mem_cons.mpr ⟨lw_p17, List.forall_mem_cons.mpr ⟨lw_p18, List.forall_mem_cons.mpr ⟨lw_p19, List.forall_mem_cons.mpr ⟨lw_p20, List.forall_mem_cons.mpr ⟨lw_p21, List.forall_mem_cons.mpr ⟨lw_p22, List.forall_mem_cons.mpr ⟨lw_p23, List.forall_mem_cons.mpr ⟨lw_p24, List.forall_mem_cons.mpr ⟨lw_p25, List.forall_mem_cons.mpr ⟨lw_p26, List.forall_mem_cons.mpr ⟨lw_p27, List.forall_mem_cons.mpr ⟨lw_p28, List.forall_mem_cons.mpr ⟨lw_p29, List.forall_mem_cons.mpr ⟨lw_p30, List.forall_mem_cons.mpr ⟨lw_p31, fun _ h => absurd h List.not_mem_nil⟩⟩⟩⟩⟩⟩⟩⟩⟩⟩⟩⟩⟩⟩⟩⟩
theorem lw_p32 : lw_okq (⟨"OneHeavyLoadModel", "isNothing", "(I)Z"⟩, 29) := ⟨⟨by decide +kernel, by decide +kernel⟩, List.mem_of_getElem? (i := 899) (by decide +kernel), List.mem_of_getElem? (i := 1050) (by decide +kernel), List.mem_of_getElem? (i := 1051) (by decide +kernel)⟩
theorem lw_p33 : lw_okq (⟨"OneHeavyLoadModel", "isHalf", "(I)Z"⟩, 29) := ⟨⟨by decide +kernel, by decide +kernel⟩, List.mem_of_getElem? (i := 899) (by decide +kernel), List.mem_of_getElem? (i := 1054) (by decide +kernel), List.mem_of_getElem? (i := 1055) (by decide +kernel)⟩
theorem lw_p34 : lw_okq (⟨"OneHeavyLoadModel", "allOf", "(IZ)I"⟩, 29) := ⟨⟨by decide +kernel, by decide +kernel⟩, List.mem_of_getElem? (i := 899) (by decide +kernel), List.mem_of_getElem? (i := 1058) (by decide +kernel), List.mem_of_getElem? (i := 1059) (by decide +kernel)⟩
theorem lw_p35 : lw_okq (⟨"OneHeavyLoadModel", "newRoad", "(II)V"⟩, 29) := ⟨⟨by decide +kernel, by decide +kernel⟩, List.mem_of_getElem? (i := 899) (by decide +kernel), List.mem_of_getElem? (i := 1073) (by decide +kernel), List.mem_of_getElem? (i := 1074) (by decide +kernel)⟩
theorem lw_p36 : lw_okq (⟨"OneHeavyLoadModel", "isRoad", "(I)Z"⟩, 29) := ⟨⟨by decide +kernel, by decide +kernel⟩, List.mem_of_getElem? (i := 899) (by decide +kernel), List.mem_of_getElem? (i := 1081) (by decide +kernel), List.mem_of_getElem? (i := 1082) (by decide +kernel)⟩
theorem lw_p37 : lw_okq (⟨"OneHeavyLoadModel", "newBridge", "()V"⟩, 29) := ⟨⟨by decide +kernel, by decide +kernel⟩, List.mem_of_getElem? (i := 899) (by decide +kernel), List.mem_of_getElem? (i := 1086) (by decide +kernel), List.mem_of_getElem? (i := 1087) (by decide +kernel)⟩
theorem lw_p38 : lw_okq (⟨"OneHeavyLoadModel", "read", "()Z"⟩, 29) := ⟨⟨by decide +kernel, by decide +kernel⟩, List.mem_of_getElem? (i := 899) (by decide +kernel), List.mem_of_getElem? (i := 1129) (by decide +kernel), List.mem_of_getElem? (i := 1130) (by decide +kernel)⟩
theorem lw_p39 : lw_okq (⟨"OneHeavyLoadModel", "look", "()V"⟩, 29) := ⟨⟨by decide +kernel, by decide +kernel⟩, List.mem_of_getElem? (i := 899) (by decide +kernel), List.mem_of_getElem? (i := 1133) (by decide +kernel), List.mem_of_getElem? (i := 1134) (by decide +kernel)⟩
theorem lw_p40 : lw_okq (⟨"OneHeavyLoadModel", "statement", "()Z"⟩, 29) := ⟨⟨by decide +kernel, by decide +kernel⟩, List.mem_of_getElem? (i := 899) (by decide +kernel), List.mem_of_getElem? (i := 1146) (by decide +kernel), List.mem_of_getElem? (i := 1147) (by decide +kernel)⟩
theorem lw_p41 : lw_okq (⟨"OneHeavyLoadModel", "isWord", "(Ljava/lang/String;)Z"⟩, 29) := ⟨⟨by decide +kernel, by decide +kernel⟩, List.mem_of_getElem? (i := 899) (by decide +kernel), List.mem_of_getElem? (i := 1151) (by decide +kernel), List.mem_of_getElem? (i := 1152) (by decide +kernel)⟩
theorem lw_p42 : lw_okq (⟨"OneHeavyLoadModel", "roadTold", "([I)Z"⟩, 29) := ⟨⟨by decide +kernel, by decide +kernel⟩, List.mem_of_getElem? (i := 899) (by decide +kernel), List.mem_of_getElem? (i := 1157) (by decide +kernel), List.mem_of_getElem? (i := 1158) (by decide +kernel)⟩
theorem lw_p43 : lw_okq (⟨"OneHeavyLoadModel", "number", "([IIII)Z"⟩, 29) := ⟨⟨by decide +kernel, by decide +kernel⟩, List.mem_of_getElem? (i := 899) (by decide +kernel), List.mem_of_getElem? (i := 1161) (by decide +kernel), List.mem_of_getElem? (i := 1162) (by decide +kernel)⟩
theorem lw_p44 : lw_okq (⟨"OneHeavyLoadModel", "wrong", "()Z"⟩, 29) := ⟨⟨by decide +kernel, by decide +kernel⟩, List.mem_of_getElem? (i := 899) (by decide +kernel), List.mem_of_getElem? (i := 1165) (by decide +kernel), List.mem_of_getElem? (i := 1166) (by decide +kernel)⟩
theorem lw_p45 : lw_okq (⟨"OneHeavyLoadModel", "told", "(Ljava/lang/String;[IIII)Z"⟩, 29) := ⟨⟨by decide +kernel, by decide +kernel⟩, List.mem_of_getElem? (i := 899) (by decide +kernel), List.mem_of_getElem? (i := 1170) (by decide +kernel), List.mem_of_getElem? (i := 1171) (by decide +kernel)⟩
theorem lw_p46 : lw_okq (⟨"OneHeavyLoadModel", "perhaps", "(Ljava/lang/String;[IIII)Z"⟩, 29) := ⟨⟨by decide +kernel, by decide +kernel⟩, List.mem_of_getElem? (i := 899) (by decide +kernel), List.mem_of_getElem? (i := 1175) (by decide +kernel), List.mem_of_getElem? (i := 1176) (by decide +kernel)⟩
theorem lw_p47 : lw_okq (⟨"OneHeavyLoadModel", "bridgeTold", "([I)Z"⟩, 29) := ⟨⟨by decide +kernel, by decide +kernel⟩, List.mem_of_getElem? (i := 899) (by decide +kernel), List.mem_of_getElem? (i := 1182) (by decide +kernel), List.mem_of_getElem? (i := 1183) (by decide +kernel)⟩
def lw_privs_3 : List (MethodName × Nat) := [(⟨"OneHeavyLoadModel", "isNothing", "(I)Z"⟩, 29), (⟨"OneHeavyLoadModel", "isHalf", "(I)Z"⟩, 29), (⟨"OneHeavyLoadModel", "allOf", "(IZ)I"⟩, 29), (⟨"OneHeavyLoadModel", "newRoad", "(II)V"⟩, 29), (⟨"OneHeavyLoadModel", "isRoad", "(I)Z"⟩, 29), (⟨"OneHeavyLoadModel", "newBridge", "()V"⟩, 29), (⟨"OneHeavyLoadModel", "read", "()Z"⟩, 29), (⟨"OneHeavyLoadModel", "look", "()V"⟩, 29), (⟨"OneHeavyLoadModel", "statement", "()Z"⟩, 29), (⟨"OneHeavyLoadModel", "isWord", "(Ljava/lang/String;)Z"⟩, 29), (⟨"OneHeavyLoadModel", "roadTold", "([I)Z"⟩, 29), (⟨"OneHeavyLoadModel", "number", "([IIII)Z"⟩, 29), (⟨"OneHeavyLoadModel", "wrong", "()Z"⟩, 29), (⟨"OneHeavyLoadModel", "told", "(Ljava/lang/String;[IIII)Z"⟩, 29), (⟨"OneHeavyLoadModel", "perhaps", "(Ljava/lang/String;[IIII)Z"⟩, 29), (⟨"OneHeavyLoadModel", "bridgeTold", "([I)Z"⟩, 29)]
theorem lw_r3 : ∀ q ∈ lw_privs_3, lw_okq q := List.forall_mem_cons.mpr ⟨lw_p32, List.forall_mem_cons.mpr ⟨lw_p33, List.forall_mem_cons.mpr ⟨lw_p34, List.forall_mem_cons.mpr ⟨lw_p35, List.forall_mem_cons.mpr ⟨lw_p36, List.forall_mem_cons.mpr ⟨lw_p37, List.forall_mem_cons.mpr ⟨lw_p38, List.forall_mem_cons.mpr ⟨lw_p39, List.forall_mem_cons.mpr ⟨lw_p40, List.forall_mem_cons.mpr ⟨lw_p41, List.forall_mem_cons.mpr ⟨lw_p42, List.forall_mem_cons.mpr ⟨lw_p43, List.forall_mem_cons.mpr ⟨lw_p44, List.forall_mem_cons.mpr ⟨lw_p45, List.forall_mem_cons.mpr ⟨lw_p46, List.forall_mem_cons.mpr ⟨lw_p47, fun _ h => absurd h List.not_mem_nil⟩⟩⟩⟩⟩⟩⟩⟩⟩⟩⟩⟩⟩⟩⟩⟩
theorem lw_p48 : lw_okq (⟨"OneHeavyLoadModel", "isWaggon", "(I)Z"⟩, 29) := ⟨⟨by decide +kernel, by decide +kernel⟩, List.mem_of_getElem? (i := 899) (by decide +kernel), List.mem_of_getElem? (i := 1214) (by decide +kernel), List.mem_of_getElem? (i := 1215) (by decide +kernel)⟩
theorem lw_p49 : lw_okq (⟨"OneHeavyLoadModel", "lengthOf", "(I)I"⟩, 29) := ⟨⟨by decide +kernel, by decide +kernel⟩, List.mem_of_getElem? (i := 899) (by decide +kernel), List.mem_of_getElem? (i := 1218) (by decide +kernel), List.mem_of_getElem? (i := 1219) (by decide +kernel)⟩
theorem lw_p50 : lw_okq (⟨"OneHeavyLoadModel", "isPack", "(II)Z"⟩, 29) := ⟨⟨by decide +kernel, by decide +kernel⟩, List.mem_of_getElem? (i := 899) (by decide +kernel), List.mem_of_getElem? (i := 1226) (by decide +kernel), List.mem_of_getElem? (i := 1227) (by decide +kernel)⟩
theorem lw_p51 : lw_okq (⟨"OneHeavyLoadModel", "axleLoad", "(II)I"⟩, 29) := ⟨⟨by decide +kernel, by decide +kernel⟩, List.mem_of_getElem? (i := 899) (by decide +kernel), List.mem_of_getElem? (i := 1230) (by decide +kernel), List.mem_of_getElem? (i := 1231) (by decide +kernel)⟩
theorem lw_p52 : lw_okq (⟨"OneHeavyLoadModel", "strainOf", "(III)I"⟩, 29) := ⟨⟨by decide +kernel, by decide +kernel⟩, List.mem_of_getElem? (i := 899) (by decide +kernel), List.mem_of_getElem? (i := 1238) (by decide +kernel), List.mem_of_getElem? (i := 1239) (by decide +kernel)⟩
theorem lw_p53 : lw_okq (⟨"OneHeavyLoadModel", "needsOf", "(III)I"⟩, 29) := ⟨⟨by decide +kernel, by decide +kernel⟩, List.mem_of_getElem? (i := 899) (by decide +kernel), List.mem_of_getElem? (i := 1246) (by decide +kernel), List.mem_of_getElem? (i := 1247) (by decide +kernel)⟩
theorem lw_p54 : lw_okq (⟨"OneHeavyLoadModel", "goesOf", "(III)Z"⟩, 29) := ⟨⟨by decide +kernel, by decide +kernel⟩, List.mem_of_getElem? (i := 899) (by decide +kernel), List.mem_of_getElem? (i := 1254) (by decide +kernel), List.mem_of_getElem? (i := 1255) (by decide +kernel)⟩
theorem lw_p55 : lw_okq (⟨"OneHeavyLoadModel", "enginesOf", "(III)I"⟩, 29) := ⟨⟨by decide +kernel, by decide +kernel⟩, List.mem_of_getElem? (i := 899) (by decide +kernel), List.mem_of_getElem? (i := 1258) (by decide +kernel), List.mem_of_getElem? (i := 1259) (by decide +kernel)⟩
theorem lw_p56 : lw_okq (⟨"OneHeavyLoadModel", "coinOf", "(IIII)I"⟩, 29) := ⟨⟨by decide +kernel, by decide +kernel⟩, List.mem_of_getElem? (i := 899) (by decide +kernel), List.mem_of_getElem? (i := 1262) (by decide +kernel), List.mem_of_getElem? (i := 1263) (by decide +kernel)⟩
theorem lw_p57 : lw_okq (⟨"OneHeavyLoadModel", "propsOf", "(IIIZ)I"⟩, 29) := ⟨⟨by decide +kernel, by decide +kernel⟩, List.mem_of_getElem? (i := 899) (by decide +kernel), List.mem_of_getElem? (i := 1266) (by decide +kernel), List.mem_of_getElem? (i := 1267) (by decide +kernel)⟩
theorem lw_p58 : lw_okq (⟨"OneHeavyLoadModel", "daysOf", "(III)I"⟩, 29) := ⟨⟨by decide +kernel, by decide +kernel⟩, List.mem_of_getElem? (i := 899) (by decide +kernel), List.mem_of_getElem? (i := 1270) (by decide +kernel), List.mem_of_getElem? (i := 1271) (by decide +kernel)⟩
theorem lw_p59 : lw_okq (⟨"OneHeavyLoadModel", "cheapestOf", "(IIIII)I"⟩, 29) := ⟨⟨by decide +kernel, by decide +kernel⟩, List.mem_of_getElem? (i := 899) (by decide +kernel), List.mem_of_getElem? (i := 1283) (by decide +kernel), List.mem_of_getElem? (i := 1284) (by decide +kernel)⟩
theorem lw_p60 : lw_okq (⟨"OneHeavyLoadModel", "findFar", "(IIII)V"⟩, 29) := ⟨⟨by decide +kernel, by decide +kernel⟩, List.mem_of_getElem? (i := 899) (by decide +kernel), List.mem_of_getElem? (i := 1287) (by decide +kernel), List.mem_of_getElem? (i := 1288) (by decide +kernel)⟩
theorem lw_p61 : lw_okq (⟨"OneHeavyLoadModel", "partsCoin", "(I)I"⟩, 29) := ⟨⟨by decide +kernel, by decide +kernel⟩, List.mem_of_getElem? (i := 899) (by decide +kernel), List.mem_of_getElem? (i := 1292) (by decide +kernel), List.mem_of_getElem? (i := 1293) (by decide +kernel)⟩
theorem lw_p62 : lw_okq (⟨"OneHeavyLoadModel", "noWay", "(IIIII)I"⟩, 29) := ⟨⟨by decide +kernel, by decide +kernel⟩, List.mem_of_getElem? (i := 899) (by decide +kernel), List.mem_of_getElem? (i := 1309) (by decide +kernel), List.mem_of_getElem? (i := 1310) (by decide +kernel)⟩
theorem lw_p63 : lw_okq (⟨"OneHeavyLoadModel", "firstWrong", "(IIIII)I"⟩, 29) := ⟨⟨by decide +kernel, by decide +kernel⟩, List.mem_of_getElem? (i := 899) (by decide +kernel), List.mem_of_getElem? (i := 1313) (by decide +kernel), List.mem_of_getElem? (i := 1314) (by decide +kernel)⟩
def lw_privs_4 : List (MethodName × Nat) := [(⟨"OneHeavyLoadModel", "isWaggon", "(I)Z"⟩, 29), (⟨"OneHeavyLoadModel", "lengthOf", "(I)I"⟩, 29), (⟨"OneHeavyLoadModel", "isPack", "(II)Z"⟩, 29), (⟨"OneHeavyLoadModel", "axleLoad", "(II)I"⟩, 29), (⟨"OneHeavyLoadModel", "strainOf", "(III)I"⟩, 29), (⟨"OneHeavyLoadModel", "needsOf", "(III)I"⟩, 29), (⟨"OneHeavyLoadModel", "goesOf", "(III)Z"⟩, 29), (⟨"OneHeavyLoadModel", "enginesOf", "(III)I"⟩, 29), (⟨"OneHeavyLoadModel", "coinOf", "(IIII)I"⟩, 29), (⟨"OneHeavyLoadModel", "propsOf", "(IIIZ)I"⟩, 29), (⟨"OneHeavyLoadModel", "daysOf", "(III)I"⟩, 29), (⟨"OneHeavyLoadModel", "cheapestOf", "(IIIII)I"⟩, 29), (⟨"OneHeavyLoadModel", "findFar", "(IIII)V"⟩, 29), (⟨"OneHeavyLoadModel", "partsCoin", "(I)I"⟩, 29), (⟨"OneHeavyLoadModel", "noWay", "(IIIII)I"⟩, 29), (⟨"OneHeavyLoadModel", "firstWrong", "(IIIII)I"⟩, 29)]
theorem lw_r4 : ∀ q ∈ lw_privs_4, lw_okq q := List.forall_mem_cons.mpr ⟨lw_p48, List.forall_mem_cons.mpr ⟨lw_p49, List.forall_mem_cons.mpr ⟨lw_p50, List.forall_mem_cons.mpr ⟨lw_p51, List.forall_mem_cons.mpr ⟨lw_p52, List.forall_mem_cons.mpr ⟨lw_p53, List.forall_mem_cons.mpr ⟨lw_p54, List.forall_mem_cons.mpr ⟨lw_p55, List.forall_mem_cons.mpr ⟨lw_p56, List.forall_mem_cons.mpr ⟨lw_p57, List.forall_mem_cons.mpr ⟨lw_p58, List.forall_mem_cons.mpr ⟨lw_p59, List.forall_mem_cons.mpr ⟨lw_p60, List.forall_mem_cons.mpr ⟨lw_p61, List.forall_mem_cons.mpr ⟨lw_p62, List.forall_mem_cons.mpr ⟨lw_p63, fun _ h => absurd h List.not_mem_nil⟩⟩⟩⟩⟩⟩⟩⟩⟩⟩⟩⟩⟩⟩⟩⟩
theorem lw_p64 : lw_okq (⟨"OneHeavyLoadModel", "takeFrom", "(LOneHeavyLoadModel;)V"⟩, 29) := ⟨⟨by decide +kernel, by decide +kernel⟩, List.mem_of_getElem? (i := 899) (by decide +kernel), List.mem_of_getElem? (i := 1363) (by decide +kernel), List.mem_of_getElem? (i := 1364) (by decide +kernel)⟩
def lw_privs_5 : List (MethodName × Nat) := [(⟨"OneHeavyLoadModel", "takeFrom", "(LOneHeavyLoadModel;)V"⟩, 29)]
theorem lw_r5 : ∀ q ∈ lw_privs_5, lw_okq q := List.forall_mem_cons.mpr ⟨lw_p64, fun _ h => absurd h List.not_mem_nil⟩
def lw_privs : List (MethodName × Nat) := lw_privs_1 ++ (lw_privs_2 ++ (lw_privs_3 ++ (lw_privs_4 ++ (lw_privs_5))))
def lw_tbl : List Cond := k2_sels lw_privs ++ tables_1
theorem lw_privs_ok : ∀ q ∈ lw_privs, lw_okq q := by
  show ∀ q ∈ lw_privs_1 ++ (lw_privs_2 ++ (lw_privs_3 ++ (lw_privs_4 ++ (lw_privs_5)))), lw_okq q
  exact List.forall_mem_append.mpr ⟨lw_r1, List.forall_mem_append.mpr ⟨lw_r2, List.forall_mem_append.mpr ⟨lw_r3, List.forall_mem_append.mpr ⟨lw_r4, lw_r5⟩⟩⟩⟩
def RX0 : String := "OneHeavyLoad$Land"
def TX0 : u_T := fun k => match k with
  | 0 => ("OneHeavyLoad$Land", "counts", "[I", true)
  | 1 => ("OneHeavyLoad$Land", "roads", "[I", true)
  | 2 => ("OneHeavyLoad$Land", "bridges", "[I", true)
  | 3 => ("OneHeavyLoad$Land", "waggons", "[I", true)
  | 4 => ("OneHeavyLoad$Land", "parts", "[I", true)
  | 5 => ("OneHeavyLoad$Land", "settings", "[I", true)
  | 6 => ("OneHeavyLoad$Land", "trip", "[I", true)
  | _ => ("OneHeavyLoad$Land", "onWay", "Z", false)
def tyX0 : Nat → FieldType := fun k => match k with
  | 0 => .array .int
  | 1 => .array .int
  | 2 => .array .int
  | 3 => .array .int
  | 4 => .array .int
  | 5 => .array .int
  | 6 => .array .int
  | _ => .boolean
theorem nmX0 : ∀ a, a < 8 → ∀ b, b < 8 → a ≠ b → (TX0 a).2.1 ≠ (TX0 b).2.1 := by decide +kernel
theorem tyX0_ok : ∀ k, k < 8 → parseFieldDescriptor (TX0 k).2.2.1 = some (tyX0 k) := by decide +kernel
abbrev cX0_init : ByteArray := prog_2_method_1_code
def yX0_init : MethodName := ⟨RX0, "<init>", "()V"⟩
abbrev cX0_become : ByteArray := prog_2_method_2_code
def yX0_become : MethodName := ⟨RX0, "become", "(LOneHeavyLoad$Land;)V"⟩
abbrev cX0_hasRoom : ByteArray := prog_2_method_3_code
def yX0_hasRoom : MethodName := ⟨RX0, "hasRoom", "(I)Z"⟩
abbrev cX0_addRoad : ByteArray := prog_2_method_4_code
def yX0_addRoad : MethodName := ⟨RX0, "addRoad", "(IIIIII)I"⟩
abbrev cX0_addBridge : ByteArray := prog_2_method_5_code
def yX0_addBridge : MethodName := ⟨RX0, "addBridge", "(IIIII)I"⟩
abbrev cX0_putProp : ByteArray := prog_2_method_6_code
def yX0_putProp : MethodName := ⟨RX0, "putProp", "(III)V"⟩
abbrev cX0_addWaggon : ByteArray := prog_2_method_7_code
def yX0_addWaggon : MethodName := ⟨RX0, "addWaggon", "(III)I"⟩
abbrev cX0_addPart : ByteArray := prog_2_method_8_code
def yX0_addPart : MethodName := ⟨RX0, "addPart", "(II)I"⟩
abbrev cX0_ofRoad : ByteArray := prog_2_method_9_code
def yX0_ofRoad : MethodName := ⟨RX0, "ofRoad", "(II)I"⟩
abbrev cX0_ofBridge : ByteArray := prog_2_method_10_code
def yX0_ofBridge : MethodName := ⟨RX0, "ofBridge", "(II)I"⟩
abbrev cX0_putBridgeColumn : ByteArray := prog_2_method_11_code
def yX0_putBridgeColumn : MethodName := ⟨RX0, "putBridgeColumn", "(III)V"⟩
abbrev cX0_ofWaggon : ByteArray := prog_2_method_12_code
def yX0_ofWaggon : MethodName := ⟨RX0, "ofWaggon", "(II)I"⟩
abbrev cX0_countBridges : ByteArray := prog_2_method_13_code
def yX0_countBridges : MethodName := ⟨RX0, "countBridges", "(I)I"⟩
abbrev cX0_waggonLength : ByteArray := prog_2_method_14_code
def yX0_waggonLength : MethodName := ⟨RX0, "waggonLength", "(I)I"⟩
abbrev cX0_setsOfParts : ByteArray := prog_2_method_15_code
def yX0_setsOfParts : MethodName := ⟨RX0, "setsOfParts", "()I"⟩
abbrev cX0_sumOfParts : ByteArray := prog_2_method_16_code
def yX0_sumOfParts : MethodName := ⟨RX0, "sumOfParts", "(II)I"⟩
abbrev cX0_isPropped : ByteArray := prog_2_method_17_code
def yX0_isPropped : MethodName := ⟨RX0, "isPropped", "(I)Z"⟩
abbrev cX0_mayBeTakenFor : ByteArray := prog_2_method_18_code
def yX0_mayBeTakenFor : MethodName := ⟨RX0, "mayBeTakenFor", "(II)Z"⟩
abbrev cX0_bearsAxle : ByteArray := prog_2_method_19_code
def yX0_bearsAxle : MethodName := ⟨RX0, "bearsAxle", "(I)I"⟩
abbrev cX0_bearsAll : ByteArray := prog_2_method_20_code
def yX0_bearsAll : MethodName := ⟨RX0, "bearsAll", "(IZ)I"⟩
abbrev cX0_believed : ByteArray := prog_2_method_21_code
def yX0_believed : MethodName := ⟨RX0, "believed", "(II)I"⟩
abbrev cX0_startTrip : ByteArray := prog_2_method_22_code
def yX0_startTrip : MethodName := ⟨RX0, "startTrip", "(IIIII)V"⟩
def RX1 : String := "OneHeavyLoad$Pack"
def TX1 : u_T := fun k => match k with
  | 0 => ("OneHeavyLoad$Pack", "axles", "I", false)
  | 1 => ("OneHeavyLoad$Pack", "space", "I", false)
  | 2 => ("OneHeavyLoad$Pack", "fullLength", "I", false)
  | 3 => ("OneHeavyLoad$Pack", "axleLoad", "I", false)
  | _ => ("OneHeavyLoad$Pack", "sentCoin", "I", false)
def tyX1 : Nat → FieldType := fun k => match k with
  | 0 => .int
  | 1 => .int
  | 2 => .int
  | 3 => .int
  | _ => .int
theorem nmX1 : ∀ a, a < 5 → ∀ b, b < 5 → a ≠ b → (TX1 a).2.1 ≠ (TX1 b).2.1 := by decide +kernel
theorem tyX1_ok : ∀ k, k < 5 → parseFieldDescriptor (TX1 k).2.2.1 = some (tyX1 k) := by decide +kernel
abbrev cX1_init : ByteArray := prog_3_method_1_code
def yX1_init : MethodName := ⟨RX1, "<init>", "()V"⟩
abbrev cX1_take : ByteArray := prog_3_method_2_code
def yX1_take : MethodName := ⟨RX1, "take", "(LOneHeavyLoad$Land;II)V"⟩
abbrev cX1_strainOn : ByteArray := prog_3_method_3_code
def yX1_strainOn : MethodName := ⟨RX1, "strainOn", "(I)I"⟩
abbrev cX1_needsOf : ByteArray := prog_3_method_4_code
def yX1_needsOf : MethodName := ⟨RX1, "needsOf", "(LOneHeavyLoad$Land;I)I"⟩
def RX2 : String := "OneHeavyLoad$Reader"
def TX2 : u_T := fun k => match k with
  | 0 => ("OneHeavyLoad$Reader", "tape", "LOneHeavyLoad$Tape;", true)
  | 1 => ("OneHeavyLoad$Reader", "land", "LOneHeavyLoad$Land;", true)
  | 2 => ("OneHeavyLoad$Reader", "countsBefore", "[I", true)
  | _ => ("OneHeavyLoad$Reader", "settingsBefore", "[I", true)
def tyX2 : Nat → FieldType := fun k => match k with
  | 0 => .object "OneHeavyLoad$Tape"
  | 1 => .object "OneHeavyLoad$Land"
  | 2 => .array .int
  | _ => .array .int
theorem nmX2 : ∀ a, a < 4 → ∀ b, b < 4 → a ≠ b → (TX2 a).2.1 ≠ (TX2 b).2.1 := by decide +kernel
theorem tyX2_ok : ∀ k, k < 4 → parseFieldDescriptor (TX2 k).2.2.1 = some (tyX2 k) := by decide +kernel
abbrev cX2_init : ByteArray := prog_4_method_1_code
def yX2_init : MethodName := ⟨RX2, "<init>", "(LOneHeavyLoad$Tape;LOneHeavyLoad$Land;)V"⟩
abbrev cX2_read : ByteArray := prog_4_method_2_code
def yX2_read : MethodName := ⟨RX2, "read", "()I"⟩
abbrev cX2_readStatement : ByteArray := prog_4_method_3_code
def yX2_readStatement : MethodName := ⟨RX2, "readStatement", "()V"⟩
abbrev cX2_enter : ByteArray := prog_4_method_4_code
def yX2_enter : MethodName := ⟨RX2, "enter", "(I)V"⟩
abbrev cX2_readRoad : ByteArray := prog_4_method_5_code
def yX2_readRoad : MethodName := ⟨RX2, "readRoad", "()V"⟩
abbrev cX2_readBridge : ByteArray := prog_4_method_6_code
def yX2_readBridge : MethodName := ⟨RX2, "readBridge", "()V"⟩
abbrev cX2_readWaggon : ByteArray := prog_4_method_7_code
def yX2_readWaggon : MethodName := ⟨RX2, "readWaggon", "()V"⟩
abbrev cX2_readPart : ByteArray := prog_4_method_8_code
def yX2_readPart : MethodName := ⟨RX2, "readPart", "()V"⟩
abbrev cX2_readSetting : ByteArray := prog_4_method_9_code
def yX2_readSetting : MethodName := ⟨RX2, "readSetting", "(I)V"⟩
abbrev cX2_number : ByteArray := prog_4_method_10_code
def yX2_number : MethodName := ⟨RX2, "number", "(Ljava/lang/String;II)I"⟩
abbrev cX2_numberIfTold : ByteArray := prog_4_method_11_code
def yX2_numberIfTold : MethodName := ⟨RX2, "numberIfTold", "(Ljava/lang/String;III)I"⟩
def RX3 : String := "OneHeavyLoad$Shelves"
def TX3 : u_T := fun k => match k with
  | 0 => ("OneHeavyLoad$Shelves", "held", "[I", true)
  | 1 => ("OneHeavyLoad$Shelves", "size", "[I", true)
  | _ => ("OneHeavyLoad$Shelves", "cells", "[J", true)
def tyX3 : Nat → FieldType := fun k => match k with
  | 0 => .array .int
  | 1 => .array .int
  | _ => .array .long
theorem nmX3 : ∀ a, a < 3 → ∀ b, b < 3 → a ≠ b → (TX3 a).2.1 ≠ (TX3 b).2.1 := by decide +kernel
theorem tyX3_ok : ∀ k, k < 3 → parseFieldDescriptor (TX3 k).2.2.1 = some (tyX3 k) := by decide +kernel
abbrev cX3_init : ByteArray := prog_5_method_1_code
def yX3_init : MethodName := ⟨RX3, "<init>", "()V"⟩
abbrev cX3_holdsNothing : ByteArray := prog_5_method_2_code
def yX3_holdsNothing : MethodName := ⟨RX3, "holdsNothing", "(I)Z"⟩
abbrev cX3_holdsBridge : ByteArray := prog_5_method_3_code
def yX3_holdsBridge : MethodName := ⟨RX3, "holdsBridge", "(I)Z"⟩
abbrev cX3_holdsRow : ByteArray := prog_5_method_4_code
def yX3_holdsRow : MethodName := ⟨RX3, "holdsRow", "(I)Z"⟩
abbrev cX3_holdsUnlikeRows : ByteArray := prog_5_method_5_code
def yX3_holdsUnlikeRows : MethodName := ⟨RX3, "holdsUnlikeRows", "(II)Z"⟩
abbrev cX3_countHeld : ByteArray := prog_5_method_6_code
def yX3_countHeld : MethodName := ⟨RX3, "countHeld", "()I"⟩
abbrev cX3_putRow : ByteArray := prog_5_method_7_code
def yX3_putRow : MethodName := ⟨RX3, "putRow", "(III)V"⟩
abbrev cX3_putBridge : ByteArray := prog_5_method_8_code
def yX3_putBridge : MethodName := ⟨RX3, "putBridge", "(II)V"⟩
abbrev cX3_dropBridgesFrom : ByteArray := prog_5_method_9_code
def yX3_dropBridgesFrom : MethodName := ⟨RX3, "dropBridgesFrom", "(I)V"⟩
abbrev cX3_elementAt : ByteArray := prog_5_method_10_code
def yX3_elementAt : MethodName := ⟨RX3, "elementAt", "(II)J"⟩
abbrev cX3_putElement : ByteArray := prog_5_method_11_code
def yX3_putElement : MethodName := ⟨RX3, "putElement", "(IIJ)V"⟩
abbrev cX3_asSort : ByteArray := prog_5_method_12_code
def yX3_asSort : MethodName := ⟨RX3, "asSort", "(IJ)J"⟩
abbrev cX3_copyElements : ByteArray := prog_5_method_13_code
def yX3_copyElements : MethodName := ⟨RX3, "copyElements", "(IIIII)V"⟩
def RX4 : String := "OneHeavyLoad$Tape"
def TX4 : u_T := fun k => match k with
  | 0 => ("OneHeavyLoad$Tape", "bytes", "[I", true)
  | 1 => ("OneHeavyLoad$Tape", "size", "I", false)
  | 2 => ("OneHeavyLoad$Tape", "fault", "I", false)
  | 3 => ("OneHeavyLoad$Tape", "sort", "I", false)
  | 4 => ("OneHeavyLoad$Tape", "start", "I", false)
  | _ => ("OneHeavyLoad$Tape", "end", "I", false)
def tyX4 : Nat → FieldType := fun k => match k with
  | 0 => .array .int
  | 1 => .int
  | 2 => .int
  | 3 => .int
  | 4 => .int
  | _ => .int
theorem nmX4 : ∀ a, a < 6 → ∀ b, b < 6 → a ≠ b → (TX4 a).2.1 ≠ (TX4 b).2.1 := by decide +kernel
theorem tyX4_ok : ∀ k, k < 6 → parseFieldDescriptor (TX4 k).2.2.1 = some (tyX4 k) := by decide +kernel
abbrev cX4_init : ByteArray := prog_6_method_1_code
def yX4_init : MethodName := ⟨RX4, "<init>", "()V"⟩
abbrev cX4_append : ByteArray := prog_6_method_2_code
def yX4_append : MethodName := ⟨RX4, "append", "(II)V"⟩
abbrev cX4_rewind : ByteArray := prog_6_method_3_code
def yX4_rewind : MethodName := ⟨RX4, "rewind", "()V"⟩
abbrev cX4_advance : ByteArray := prog_6_method_4_code
def yX4_advance : MethodName := ⟨RX4, "advance", "()V"⟩
abbrev cX4_isSound : ByteArray := prog_6_method_5_code
def yX4_isSound : MethodName := ⟨RX4, "isSound", "()Z"⟩
abbrev cX4_fail : ByteArray := prog_6_method_6_code
def yX4_fail : MethodName := ⟨RX4, "fail", "()V"⟩
abbrev cX4_isEnd : ByteArray := prog_6_method_7_code
def yX4_isEnd : MethodName := ⟨RX4, "isEnd", "()Z"⟩
abbrev cX4_isWord : ByteArray := prog_6_method_8_code
def yX4_isWord : MethodName := ⟨RX4, "isWord", "(Ljava/lang/String;)Z"⟩
abbrev cX4_takeSign : ByteArray := prog_6_method_9_code
def yX4_takeSign : MethodName := ⟨RX4, "takeSign", "()V"⟩
abbrev cX4_takeWord : ByteArray := prog_6_method_10_code
def yX4_takeWord : MethodName := ⟨RX4, "takeWord", "(Ljava/lang/String;)V"⟩
abbrev cX4_takeWordIfThere : ByteArray := prog_6_method_11_code
def yX4_takeWordIfThere : MethodName := ⟨RX4, "takeWordIfThere", "(Ljava/lang/String;)Z"⟩
abbrev cX4_takeNumber : ByteArray := prog_6_method_12_code
def yX4_takeNumber : MethodName := ⟨RX4, "takeNumber", "(II)I"⟩
abbrev cX4_numberHere : ByteArray := prog_6_method_13_code
def yX4_numberHere : MethodName := ⟨RX4, "numberHere", "()I"⟩
def RX5 : String := "OneHeavyLoad$Ways"
def TX5 : u_T := fun k => match k with
  | 0 => ("OneHeavyLoad$Ways", "land", "LOneHeavyLoad$Land;", true)
  | 1 => ("OneHeavyLoad$Ways", "pack", "LOneHeavyLoad$Pack;", true)
  | 2 => ("OneHeavyLoad$Ways", "props", "[I", true)
  | 3 => ("OneHeavyLoad$Ways", "propCoin", "[I", true)
  | 4 => ("OneHeavyLoad$Ways", "price", "[I", true)
  | 5 => ("OneHeavyLoad$Ways", "far", "[I", true)
  | _ => ("OneHeavyLoad$Ways", "walked", "[I", true)
def tyX5 : Nat → FieldType := fun k => match k with
  | 0 => .object "OneHeavyLoad$Land"
  | 1 => .object "OneHeavyLoad$Pack"
  | 2 => .array .int
  | 3 => .array .int
  | 4 => .array .int
  | 5 => .array .int
  | _ => .array .int
theorem nmX5 : ∀ a, a < 7 → ∀ b, b < 7 → a ≠ b → (TX5 a).2.1 ≠ (TX5 b).2.1 := by decide +kernel
theorem tyX5_ok : ∀ k, k < 7 → parseFieldDescriptor (TX5 k).2.2.1 = some (tyX5 k) := by decide +kernel
abbrev cX5_init : ByteArray := prog_7_method_1_code
def yX5_init : MethodName := ⟨RX5, "<init>", "(LOneHeavyLoad$Land;)V"⟩
abbrev cX5_survey : ByteArray := prog_7_method_2_code
def yX5_survey : MethodName := ⟨RX5, "survey", "(II)V"⟩
abbrev cX5_engines : ByteArray := prog_7_method_3_code
def yX5_engines : MethodName := ⟨RX5, "engines", "(I)I"⟩
abbrev cX5_coinOf : ByteArray := prog_7_method_4_code
def yX5_coinOf : MethodName := ⟨RX5, "coinOf", "(II)I"⟩
abbrev cX5_daysOf : ByteArray := prog_7_method_5_code
def yX5_daysOf : MethodName := ⟨RX5, "daysOf", "(I)I"⟩
abbrev cX5_leastCoin : ByteArray := prog_7_method_6_code
def yX5_leastCoin : MethodName := ⟨RX5, "leastCoin", "(IIIII)I"⟩
abbrev cX5_leastDays : ByteArray := prog_7_method_7_code
def yX5_leastDays : MethodName := ⟨RX5, "leastDays", "(IIII)I"⟩
abbrev cX5_reached : ByteArray := prog_7_method_8_code
def yX5_reached : MethodName := ⟨RX5, "reached", "(III)I"⟩
abbrev cX5_hasWay : ByteArray := prog_7_method_9_code
def yX5_hasWay : MethodName := ⟨RX5, "hasWay", "(IIII)Z"⟩
abbrev cX5_priceByCoin : ByteArray := prog_7_method_10_code
def yX5_priceByCoin : MethodName := ⟨RX5, "priceByCoin", "(I)V"⟩
abbrev cX5_spread : ByteArray := prog_7_method_11_code
def yX5_spread : MethodName := ⟨RX5, "spread", "(I)V"⟩
abbrev cX5_shorten : ByteArray := prog_7_method_12_code
def yX5_shorten : MethodName := ⟨RX5, "shorten", "(I)Z"⟩
abbrev cX5_firstRoad : ByteArray := prog_7_method_13_code
def yX5_firstRoad : MethodName := ⟨RX5, "firstRoad", "(IIII)I"⟩
abbrev cX5_otherEnd : ByteArray := prog_7_method_14_code
def yX5_otherEnd : MethodName := ⟨RX5, "otherEnd", "(II)I"⟩
abbrev cX5_setOut : ByteArray := prog_7_method_15_code
def yX5_setOut : MethodName := ⟨RX5, "setOut", "(I)V"⟩
abbrev cX5_walk : ByteArray := prog_7_method_16_code
def yX5_walk : MethodName := ⟨RX5, "walk", "(J)Z"⟩
abbrev cX5_standProps : ByteArray := prog_7_method_17_code
def yX5_standProps : MethodName := ⟨RX5, "standProps", "(I)V"⟩
def RX6 : String := "OneHeavyLoad"
def TX6 : u_T := fun k => match k with
  | 0 => ("OneHeavyLoad", "now", "LOneHeavyLoad$Land;", true)
  | 1 => ("OneHeavyLoad", "kept", "LOneHeavyLoad$Land;", true)
  | 2 => ("OneHeavyLoad", "isKept", "Z", false)
  | 3 => ("OneHeavyLoad", "ways", "LOneHeavyLoad$Ways;", true)
  | 4 => ("OneHeavyLoad", "shelves", "LOneHeavyLoad$Shelves;", true)
  | 5 => ("OneHeavyLoad", "tape", "LOneHeavyLoad$Tape;", true)
  | 6 => ("OneHeavyLoad", "reader", "LOneHeavyLoad$Reader;", true)
  | 7 => ("OneHeavyLoad", "refusals", "[I", true)
  | _ => ("OneHeavyLoad", "bestPack", "[I", true)
def tyX6 : Nat → FieldType := fun k => match k with
  | 0 => .object "OneHeavyLoad$Land"
  | 1 => .object "OneHeavyLoad$Land"
  | 2 => .boolean
  | 3 => .object "OneHeavyLoad$Ways"
  | 4 => .object "OneHeavyLoad$Shelves"
  | 5 => .object "OneHeavyLoad$Tape"
  | 6 => .object "OneHeavyLoad$Reader"
  | 7 => .array .int
  | _ => .array .int
theorem nmX6 : ∀ a, a < 9 → ∀ b, b < 9 → a ≠ b → (TX6 a).2.1 ≠ (TX6 b).2.1 := by decide +kernel
theorem tyX6_ok : ∀ k, k < 9 → parseFieldDescriptor (TX6 k).2.2.1 = some (tyX6 k) := by decide +kernel
abbrev cX6_init : ByteArray := prog_1_method_1_code
def yX6_init : MethodName := ⟨RX6, "<init>", "()V"⟩
abbrev cX6_row : ByteArray := prog_1_method_2_code
def yX6_row : MethodName := ⟨RX6, "row", "(III)I"⟩
abbrev cX6_set : ByteArray := prog_1_method_3_code
def yX6_set : MethodName := ⟨RX6, "set", "(IIJ)I"⟩
abbrev cX6_copy : ByteArray := prog_1_method_4_code
def yX6_copy : MethodName := ⟨RX6, "copy", "(IIIII)I"⟩
abbrev cX6_element : ByteArray := prog_1_method_5_code
def yX6_element : MethodName := ⟨RX6, "element", "(II)J"⟩
abbrev cX6_holds : ByteArray := prog_1_method_6_code
def yX6_holds : MethodName := ⟨RX6, "holds", "(I)I"⟩
abbrev cX6_show : ByteArray := prog_1_method_7_code
def yX6_show : MethodName := ⟨RX6, "show", "(II)I"⟩
abbrev cX6_says : ByteArray := prog_1_method_8_code
def yX6_says : MethodName := ⟨RX6, "says", "(II)I"⟩
abbrev cX6_road : ByteArray := prog_1_method_9_code
def yX6_road : MethodName := ⟨RX6, "road", "(IIIIII)I"⟩
abbrev cX6_bridge : ByteArray := prog_1_method_10_code
def yX6_bridge : MethodName := ⟨RX6, "bridge", "(IIIII)I"⟩
abbrev cX6_prop : ByteArray := prog_1_method_11_code
def yX6_prop : MethodName := ⟨RX6, "prop", "(III)I"⟩
abbrev cX6_waggon : ByteArray := prog_1_method_12_code
def yX6_waggon : MethodName := ⟨RX6, "waggon", "(III)I"⟩
abbrev cX6_part : ByteArray := prog_1_method_13_code
def yX6_part : MethodName := ⟨RX6, "part", "(II)I"⟩
abbrev cX6_ask : ByteArray := prog_1_method_14_code
def yX6_ask : MethodName := ⟨RX6, "ask", "(II)I"⟩
abbrev cX6_stand : ByteArray := prog_1_method_15_code
def yX6_stand : MethodName := ⟨RX6, "stand", "(IIZ)I"⟩
abbrev cX6_shut : ByteArray := prog_1_method_16_code
def yX6_shut : MethodName := ⟨RX6, "shut", "(IZ)I"⟩
abbrev cX6_feed : ByteArray := prog_1_method_17_code
def yX6_feed : MethodName := ⟨RX6, "feed", "(II)I"⟩
abbrev cX6_wipe : ByteArray := prog_1_method_18_code
def yX6_wipe : MethodName := ⟨RX6, "wipe", "()I"⟩
abbrev cX6_land : ByteArray := prog_1_method_19_code
def yX6_land : MethodName := ⟨RX6, "land", "()I"⟩
abbrev cX6_roadOf : ByteArray := prog_1_method_20_code
def yX6_roadOf : MethodName := ⟨RX6, "roadOf", "(II)I"⟩
abbrev cX6_bridgeOf : ByteArray := prog_1_method_21_code
def yX6_bridgeOf : MethodName := ⟨RX6, "bridgeOf", "(II)I"⟩
abbrev cX6_bears : ByteArray := prog_1_method_22_code
def yX6_bears : MethodName := ⟨RX6, "bears", "(IZ)I"⟩
abbrev cX6_length : ByteArray := prog_1_method_23_code
def yX6_length : MethodName := ⟨RX6, "length", "(I)I"⟩
abbrev cX6_axle : ByteArray := prog_1_method_24_code
def yX6_axle : MethodName := ⟨RX6, "axle", "(II)I"⟩
abbrev cX6_strain : ByteArray := prog_1_method_25_code
def yX6_strain : MethodName := ⟨RX6, "strain", "(III)I"⟩
abbrev cX6_needs : ByteArray := prog_1_method_26_code
def yX6_needs : MethodName := ⟨RX6, "needs", "(III)I"⟩
abbrev cX6_goes : ByteArray := prog_1_method_27_code
def yX6_goes : MethodName := ⟨RX6, "goes", "(IIII)I"⟩
abbrev cX6_cheapest : ByteArray := prog_1_method_28_code
def yX6_cheapest : MethodName := ⟨RX6, "cheapest", "(IIII)I"⟩
abbrev cX6_soonest : ByteArray := prog_1_method_29_code
def yX6_soonest : MethodName := ⟨RX6, "soonest", "(IIII)I"⟩
abbrev cX6_again : ByteArray := prog_1_method_30_code
def yX6_again : MethodName := ⟨RX6, "again", "(IIIII)I"⟩
abbrev cX6_best : ByteArray := prog_1_method_31_code
def yX6_best : MethodName := ⟨RX6, "best", "(III)I"⟩
abbrev cX6_judge : ByteArray := prog_1_method_32_code
def yX6_judge : MethodName := ⟨RX6, "judge", "(IIIII)I"⟩
abbrev cX6_told : ByteArray := prog_1_method_33_code
def yX6_told : MethodName := ⟨RX6, "told", "(IIIIII)I"⟩
abbrev cX6_reach : ByteArray := prog_1_method_34_code
def yX6_reach : MethodName := ⟨RX6, "reach", "(III)I"⟩
abbrev cX6_hang : ByteArray := prog_1_method_35_code
def yX6_hang : MethodName := ⟨RX6, "hang", "(IIII)I"⟩
abbrev cX6_fewest : ByteArray := prog_1_method_36_code
def yX6_fewest : MethodName := ⟨RX6, "fewest", "(III)I"⟩
abbrev cX6_most : ByteArray := prog_1_method_37_code
def yX6_most : MethodName := ⟨RX6, "most", "(III)I"⟩
abbrev cX6_frost : ByteArray := prog_1_method_38_code
def yX6_frost : MethodName := ⟨RX6, "frost", "(IIIIIII)J"⟩
abbrev cX6_begin : ByteArray := prog_1_method_39_code
def yX6_begin : MethodName := ⟨RX6, "begin", "(IIII)I"⟩
abbrev cX6_step : ByteArray := prog_1_method_40_code
def yX6_step : MethodName := ⟨RX6, "step", "()I"⟩
abbrev cX6_under : ByteArray := prog_1_method_41_code
def yX6_under : MethodName := ⟨RX6, "under", "(I)I"⟩
abbrev cX6_image : ByteArray := prog_1_method_42_code
def yX6_image : MethodName := ⟨RX6, "image", "()I"⟩
abbrev cX6_back : ByteArray := prog_1_method_43_code
def yX6_back : MethodName := ⟨RX6, "back", "()I"⟩
abbrev cX6_status : ByteArray := prog_1_method_44_code
def yX6_status : MethodName := ⟨RX6, "status", "(I)I"⟩
abbrev cX6_refuse : ByteArray := prog_1_method_45_code
def yX6_refuse : MethodName := ⟨RX6, "refuse", "(I)I"⟩
abbrev cX6_orStuck : ByteArray := prog_1_method_46_code
def yX6_orStuck : MethodName := ⟨RX6, "orStuck", "(I)I"⟩
abbrev cX6_within : ByteArray := prog_1_method_47_code
def yX6_within : MethodName := ⟨RX6, "within", "(III)Z"⟩
abbrev cX6_cut : ByteArray := prog_1_method_48_code
def yX6_cut : MethodName := ⟨RX6, "cut", "(II)I"⟩
abbrev cX6_roundedUp : ByteArray := prog_1_method_49_code
def yX6_roundedUp : MethodName := ⟨RX6, "roundedUp", "(II)I"⟩
abbrev cX6_isPlace : ByteArray := prog_1_method_50_code
def yX6_isPlace : MethodName := ⟨RX6, "isPlace", "(I)Z"⟩
abbrev cX6_isShelf : ByteArray := prog_1_method_51_code
def yX6_isShelf : MethodName := ⟨RX6, "isShelf", "(I)Z"⟩
abbrev cX6_isRoad : ByteArray := prog_1_method_52_code
def yX6_isRoad : MethodName := ⟨RX6, "isRoad", "(I)Z"⟩
abbrev cX6_isBridge : ByteArray := prog_1_method_53_code
def yX6_isBridge : MethodName := ⟨RX6, "isBridge", "(I)Z"⟩
abbrev cX6_isWaggon : ByteArray := prog_1_method_54_code
def yX6_isWaggon : MethodName := ⟨RX6, "isWaggon", "(I)Z"⟩
abbrev cX6_isPack : ByteArray := prog_1_method_55_code
def yX6_isPack : MethodName := ⟨RX6, "isPack", "(II)Z"⟩
abbrev cX6_isJourney : ByteArray := prog_1_method_56_code
def yX6_isJourney : MethodName := ⟨RX6, "isJourney", "(IIII)Z"⟩
abbrev cX6_whyNoRow : ByteArray := prog_1_method_57_code
def yX6_whyNoRow : MethodName := ⟨RX6, "whyNoRow", "(I)I"⟩
abbrev cX6_whyNotTold : ByteArray := prog_1_method_58_code
def yX6_whyNotTold : MethodName := ⟨RX6, "whyNotTold", "(IIIII)I"⟩
abbrev cX6_firstWrong : ByteArray := prog_1_method_59_code
def yX6_firstWrong : MethodName := ⟨RX6, "firstWrong", "(III)I"⟩
abbrev cX6_spoken : ByteArray := prog_1_method_60_code
def yX6_spoken : MethodName := ⟨RX6, "spoken", "(II)I"⟩
abbrev cX6_findBest : ByteArray := prog_1_method_61_code
def yX6_findBest : MethodName := ⟨RX6, "findBest", "(II)V"⟩
abbrev cX6_coinIfFallen : ByteArray := prog_1_method_62_code
def yX6_coinIfFallen : MethodName := ⟨RX6, "coinIfFallen", "(IIIII)I"⟩
abbrev cX6_heaviest : ByteArray := prog_1_method_63_code
def yX6_heaviest : MethodName := ⟨RX6, "heaviest", "(III)I"⟩
abbrev cX6_valueOfWaiting : ByteArray := prog_1_method_64_code
def yX6_valueOfWaiting : MethodName := ⟨RX6, "valueOfWaiting", "(JJIII)J"⟩
abbrev cX6_goAlong : ByteArray := prog_1_method_65_code
def yX6_goAlong : MethodName := ⟨RX6, "goAlong", "(I)V"⟩
def RX7 : String := "OneHeavyLoadModel"
def TX7 : u_T := fun k => match k with
  | 0 => ("OneHeavyLoadModel", "shelf", "[I", true)
  | 1 => ("OneHeavyLoadModel", "rowSort", "[I", true)
  | 2 => ("OneHeavyLoadModel", "rowSize", "[I", true)
  | 3 => ("OneHeavyLoadModel", "rows", "[[J", true)
  | 4 => ("OneHeavyLoadModel", "moved", "[J", true)
  | 5 => ("OneHeavyLoadModel", "shown", "[I", true)
  | 6 => ("OneHeavyLoadModel", "tape", "[I", true)
  | 7 => ("OneHeavyLoadModel", "tapeSize", "I", false)
  | 8 => ("OneHeavyLoadModel", "refused", "[I", true)
  | 9 => ("OneHeavyLoadModel", "roads", "I", false)
  | 10 => ("OneHeavyLoadModel", "road", "[[I", true)
  | 11 => ("OneHeavyLoadModel", "bridges", "I", false)
  | 12 => ("OneHeavyLoadModel", "bridge", "[[I", true)
  | 13 => ("OneHeavyLoadModel", "waggons", "I", false)
  | 14 => ("OneHeavyLoadModel", "waggon", "[[I", true)
  | 15 => ("OneHeavyLoadModel", "parts", "I", false)
  | 16 => ("OneHeavyLoadModel", "part", "[[I", true)
  | 17 => ("OneHeavyLoadModel", "asked", "[I", true)
  | 18 => ("OneHeavyLoadModel", "under", "[I", true)
  | 19 => ("OneHeavyLoadModel", "underCoin", "I", false)
  | 20 => ("OneHeavyLoadModel", "kept", "LOneHeavyLoadModel;", false)
  | 21 => ("OneHeavyLoadModel", "at", "I", false)
  | 22 => ("OneHeavyLoadModel", "token", "I", false)
  | 23 => ("OneHeavyLoadModel", "from", "I", false)
  | 24 => ("OneHeavyLoadModel", "figures", "J", false)
  | 25 => ("OneHeavyLoadModel", "fault", "I", false)
  | 26 => ("OneHeavyLoadModel", "statements", "I", false)
  | 27 => ("OneHeavyLoadModel", "far", "[J", true)
  | _ => ("OneHeavyLoadModel", "toldEnd", "I", false)
def tyX7 : Nat → FieldType := fun k => match k with
  | 0 => .array .int
  | 1 => .array .int
  | 2 => .array .int
  | 3 => .array (.array .long)
  | 4 => .array .long
  | 5 => .array .int
  | 6 => .array .int
  | 7 => .int
  | 8 => .array .int
  | 9 => .int
  | 10 => .array (.array .int)
  | 11 => .int
  | 12 => .array (.array .int)
  | 13 => .int
  | 14 => .array (.array .int)
  | 15 => .int
  | 16 => .array (.array .int)
  | 17 => .array .int
  | 18 => .array .int
  | 19 => .int
  | 20 => .object "OneHeavyLoadModel"
  | 21 => .int
  | 22 => .int
  | 23 => .int
  | 24 => .long
  | 25 => .int
  | 26 => .int
  | 27 => .array .long
  | _ => .int
theorem nmX7 : ∀ a, a < 29 → ∀ b, b < 29 → a ≠ b → (TX7 a).2.1 ≠ (TX7 b).2.1 := by decide +kernel
theorem tyX7_ok : ∀ k, k < 29 → parseFieldDescriptor (TX7 k).2.2.1 = some (tyX7 k) := by decide +kernel
abbrev cX7_init : ByteArray := prog_9_method_1_code
def yX7_init : MethodName := ⟨RX7, "<init>", "()V"⟩
abbrev cX7_refuse : ByteArray := prog_9_method_2_code
def yX7_refuse : MethodName := ⟨RX7, "refuse", "(I)I"⟩
abbrev cX7_in : ByteArray := prog_9_method_3_code
def yX7_in : MethodName := ⟨RX7, "in", "(JJJ)Z"⟩
abbrev cX7_isPlace : ByteArray := prog_9_method_4_code
def yX7_isPlace : MethodName := ⟨RX7, "isPlace", "(I)Z"⟩
abbrev cX7_isRoad : ByteArray := prog_9_method_5_code
def yX7_isRoad : MethodName := ⟨RX7, "isRoad", "(I)Z"⟩
abbrev cX7_isBridge : ByteArray := prog_9_method_6_code
def yX7_isBridge : MethodName := ⟨RX7, "isBridge", "(I)Z"⟩
abbrev cX7_isWaggon : ByteArray := prog_9_method_7_code
def yX7_isWaggon : MethodName := ⟨RX7, "isWaggon", "(I)Z"⟩
abbrev cX7_isPack : ByteArray := prog_9_method_8_code
def yX7_isPack : MethodName := ⟨RX7, "isPack", "(II)Z"⟩
abbrev cX7_row : ByteArray := prog_9_method_9_code
def yX7_row : MethodName := ⟨RX7, "row", "(III)I"⟩
abbrev cX7_fit : ByteArray := prog_9_method_10_code
def yX7_fit : MethodName := ⟨RX7, "fit", "(IJ)J"⟩
abbrev cX7_set : ByteArray := prog_9_method_11_code
def yX7_set : MethodName := ⟨RX7, "set", "(IIJ)I"⟩
abbrev cX7_copy : ByteArray := prog_9_method_12_code
def yX7_copy : MethodName := ⟨RX7, "copy", "(IIIII)I"⟩
abbrev cX7_element : ByteArray := prog_9_method_13_code
def yX7_element : MethodName := ⟨RX7, "element", "(II)J"⟩
abbrev cX7_holds : ByteArray := prog_9_method_14_code
def yX7_holds : MethodName := ⟨RX7, "holds", "(I)I"⟩
abbrev cX7_show : ByteArray := prog_9_method_15_code
def yX7_show : MethodName := ⟨RX7, "show", "(II)I"⟩
abbrev cX7_isUnder : ByteArray := prog_9_method_16_code
def yX7_isUnder : MethodName := ⟨RX7, "isUnder", "(II)Z"⟩
abbrev cX7_says : ByteArray := prog_9_method_17_code
def yX7_says : MethodName := ⟨RX7, "says", "(II)I"⟩
abbrev cX7_newRoad : ByteArray := prog_9_method_18_code
def yX7_newRoad : MethodName := ⟨RX7, "newRoad", "(II)V"⟩
abbrev cX7_road : ByteArray := prog_9_method_19_code
def yX7_road : MethodName := ⟨RX7, "road", "(IIIIII)I"⟩
abbrev cX7_newBridge : ByteArray := prog_9_method_20_code
def yX7_newBridge : MethodName := ⟨RX7, "newBridge", "()V"⟩
abbrev cX7_bridge : ByteArray := prog_9_method_21_code
def yX7_bridge : MethodName := ⟨RX7, "bridge", "(IIIII)I"⟩
abbrev cX7_prop : ByteArray := prog_9_method_22_code
def yX7_prop : MethodName := ⟨RX7, "prop", "(III)I"⟩
abbrev cX7_waggon : ByteArray := prog_9_method_23_code
def yX7_waggon : MethodName := ⟨RX7, "waggon", "(III)I"⟩
abbrev cX7_part : ByteArray := prog_9_method_24_code
def yX7_part : MethodName := ⟨RX7, "part", "(II)I"⟩
abbrev cX7_ask : ByteArray := prog_9_method_25_code
def yX7_ask : MethodName := ⟨RX7, "ask", "(II)I"⟩
abbrev cX7_stand : ByteArray := prog_9_method_26_code
def yX7_stand : MethodName := ⟨RX7, "stand", "(IIZ)I"⟩
abbrev cX7_shut : ByteArray := prog_9_method_27_code
def yX7_shut : MethodName := ⟨RX7, "shut", "(IZ)I"⟩
abbrev cX7_feed : ByteArray := prog_9_method_28_code
def yX7_feed : MethodName := ⟨RX7, "feed", "(II)I"⟩
abbrev cX7_wipe : ByteArray := prog_9_method_29_code
def yX7_wipe : MethodName := ⟨RX7, "wipe", "()I"⟩
abbrev cX7_isLetter : ByteArray := prog_9_method_30_code
def yX7_isLetter : MethodName := ⟨RX7, "isLetter", "(I)Z"⟩
abbrev cX7_isDigit : ByteArray := prog_9_method_31_code
def yX7_isDigit : MethodName := ⟨RX7, "isDigit", "(I)Z"⟩
abbrev cX7_look : ByteArray := prog_9_method_32_code
def yX7_look : MethodName := ⟨RX7, "look", "()V"⟩
abbrev cX7_wrong : ByteArray := prog_9_method_33_code
def yX7_wrong : MethodName := ⟨RX7, "wrong", "()Z"⟩
abbrev cX7_isWord : ByteArray := prog_9_method_34_code
def yX7_isWord : MethodName := ⟨RX7, "isWord", "(Ljava/lang/String;)Z"⟩
abbrev cX7_number : ByteArray := prog_9_method_35_code
def yX7_number : MethodName := ⟨RX7, "number", "([IIII)Z"⟩
abbrev cX7_told : ByteArray := prog_9_method_36_code
def yX7_told : MethodName := ⟨RX7, "told", "(Ljava/lang/String;[IIII)Z"⟩
abbrev cX7_perhaps : ByteArray := prog_9_method_37_code
def yX7_perhaps : MethodName := ⟨RX7, "perhaps", "(Ljava/lang/String;[IIII)Z"⟩
abbrev cX7_statement : ByteArray := prog_9_method_38_code
def yX7_statement : MethodName := ⟨RX7, "statement", "()Z"⟩
abbrev cX7_roadTold : ByteArray := prog_9_method_39_code
def yX7_roadTold : MethodName := ⟨RX7, "roadTold", "([I)Z"⟩
abbrev cX7_bridgeTold : ByteArray := prog_9_method_40_code
def yX7_bridgeTold : MethodName := ⟨RX7, "bridgeTold", "([I)Z"⟩
abbrev cX7_read : ByteArray := prog_9_method_41_code
def yX7_read : MethodName := ⟨RX7, "read", "()Z"⟩
abbrev cX7_land : ByteArray := prog_9_method_42_code
def yX7_land : MethodName := ⟨RX7, "land", "()I"⟩
abbrev cX7_roadOf : ByteArray := prog_9_method_43_code
def yX7_roadOf : MethodName := ⟨RX7, "roadOf", "(II)I"⟩
abbrev cX7_bridgeOf : ByteArray := prog_9_method_44_code
def yX7_bridgeOf : MethodName := ⟨RX7, "bridgeOf", "(II)I"⟩
abbrev cX7_isHalf : ByteArray := prog_9_method_45_code
def yX7_isHalf : MethodName := ⟨RX7, "isHalf", "(I)Z"⟩
abbrev cX7_isNothing : ByteArray := prog_9_method_46_code
def yX7_isNothing : MethodName := ⟨RX7, "isNothing", "(I)Z"⟩
abbrev cX7_axleOf : ByteArray := prog_9_method_47_code
def yX7_axleOf : MethodName := ⟨RX7, "axleOf", "(I)I"⟩
abbrev cX7_allOf : ByteArray := prog_9_method_48_code
def yX7_allOf : MethodName := ⟨RX7, "allOf", "(IZ)I"⟩
abbrev cX7_bears : ByteArray := prog_9_method_49_code
def yX7_bears : MethodName := ⟨RX7, "bears", "(IZ)I"⟩
abbrev cX7_lengthOf : ByteArray := prog_9_method_50_code
def yX7_lengthOf : MethodName := ⟨RX7, "lengthOf", "(I)I"⟩
abbrev cX7_length : ByteArray := prog_9_method_51_code
def yX7_length : MethodName := ⟨RX7, "length", "(I)I"⟩
abbrev cX7_axleLoad : ByteArray := prog_9_method_52_code
def yX7_axleLoad : MethodName := ⟨RX7, "axleLoad", "(II)I"⟩
abbrev cX7_axle : ByteArray := prog_9_method_53_code
def yX7_axle : MethodName := ⟨RX7, "axle", "(II)I"⟩
abbrev cX7_strainOf : ByteArray := prog_9_method_54_code
def yX7_strainOf : MethodName := ⟨RX7, "strainOf", "(III)I"⟩
abbrev cX7_strain : ByteArray := prog_9_method_55_code
def yX7_strain : MethodName := ⟨RX7, "strain", "(III)I"⟩
abbrev cX7_needsOf : ByteArray := prog_9_method_56_code
def yX7_needsOf : MethodName := ⟨RX7, "needsOf", "(III)I"⟩
abbrev cX7_needs : ByteArray := prog_9_method_57_code
def yX7_needs : MethodName := ⟨RX7, "needs", "(III)I"⟩
abbrev cX7_goesOf : ByteArray := prog_9_method_58_code
def yX7_goesOf : MethodName := ⟨RX7, "goesOf", "(III)Z"⟩
abbrev cX7_enginesOf : ByteArray := prog_9_method_59_code
def yX7_enginesOf : MethodName := ⟨RX7, "enginesOf", "(III)I"⟩
abbrev cX7_propsOf : ByteArray := prog_9_method_60_code
def yX7_propsOf : MethodName := ⟨RX7, "propsOf", "(IIIZ)I"⟩
abbrev cX7_coinOf : ByteArray := prog_9_method_61_code
def yX7_coinOf : MethodName := ⟨RX7, "coinOf", "(IIII)I"⟩
abbrev cX7_daysOf : ByteArray := prog_9_method_62_code
def yX7_daysOf : MethodName := ⟨RX7, "daysOf", "(III)I"⟩
abbrev cX7_goes : ByteArray := prog_9_method_63_code
def yX7_goes : MethodName := ⟨RX7, "goes", "(IIII)I"⟩
abbrev cX7_findFar : ByteArray := prog_9_method_64_code
def yX7_findFar : MethodName := ⟨RX7, "findFar", "(IIII)V"⟩
abbrev cX7_partsCoin : ByteArray := prog_9_method_65_code
def yX7_partsCoin : MethodName := ⟨RX7, "partsCoin", "(I)I"⟩
abbrev cX7_cheapestOf : ByteArray := prog_9_method_66_code
def yX7_cheapestOf : MethodName := ⟨RX7, "cheapestOf", "(IIIII)I"⟩
abbrev cX7_cheapest : ByteArray := prog_9_method_67_code
def yX7_cheapest : MethodName := ⟨RX7, "cheapest", "(IIII)I"⟩
abbrev cX7_soonest : ByteArray := prog_9_method_68_code
def yX7_soonest : MethodName := ⟨RX7, "soonest", "(IIII)I"⟩
abbrev cX7_again : ByteArray := prog_9_method_69_code
def yX7_again : MethodName := ⟨RX7, "again", "(IIIII)I"⟩
abbrev cX7_best : ByteArray := prog_9_method_70_code
def yX7_best : MethodName := ⟨RX7, "best", "(III)I"⟩
abbrev cX7_firstWrong : ByteArray := prog_9_method_71_code
def yX7_firstWrong : MethodName := ⟨RX7, "firstWrong", "(IIIII)I"⟩
abbrev cX7_noWay : ByteArray := prog_9_method_72_code
def yX7_noWay : MethodName := ⟨RX7, "noWay", "(IIIII)I"⟩
abbrev cX7_judge : ByteArray := prog_9_method_73_code
def yX7_judge : MethodName := ⟨RX7, "judge", "(IIIII)I"⟩
abbrev cX7_told_ : ByteArray := prog_9_method_74_code
def yX7_told_ : MethodName := ⟨RX7, "told", "(IIIIII)I"⟩
abbrev cX7_bits : ByteArray := prog_9_method_75_code
def yX7_bits : MethodName := ⟨RX7, "bits", "(I)I"⟩
abbrev cX7_reach : ByteArray := prog_9_method_76_code
def yX7_reach : MethodName := ⟨RX7, "reach", "(III)I"⟩
abbrev cX7_hang : ByteArray := prog_9_method_77_code
def yX7_hang : MethodName := ⟨RX7, "hang", "(IIII)I"⟩
abbrev cX7_fewest : ByteArray := prog_9_method_78_code
def yX7_fewest : MethodName := ⟨RX7, "fewest", "(III)I"⟩
abbrev cX7_most : ByteArray := prog_9_method_79_code
def yX7_most : MethodName := ⟨RX7, "most", "(III)I"⟩
abbrev cX7_frost : ByteArray := prog_9_method_80_code
def yX7_frost : MethodName := ⟨RX7, "frost", "(IIIIIII)J"⟩
abbrev cX7_begin : ByteArray := prog_9_method_81_code
def yX7_begin : MethodName := ⟨RX7, "begin", "(IIII)I"⟩
abbrev cX7_step : ByteArray := prog_9_method_82_code
def yX7_step : MethodName := ⟨RX7, "step", "()I"⟩
abbrev cX7_under : ByteArray := prog_9_method_83_code
def yX7_under : MethodName := ⟨RX7, "under", "(I)I"⟩
abbrev cX7_over : ByteArray := prog_9_method_84_code
def yX7_over : MethodName := ⟨RX7, "over", "([I[I)V"⟩
abbrev cX7_overAll : ByteArray := prog_9_method_85_code
def yX7_overAll : MethodName := ⟨RX7, "overAll", "([[I[[I)V"⟩
abbrev cX7_takeFrom : ByteArray := prog_9_method_86_code
def yX7_takeFrom : MethodName := ⟨RX7, "takeFrom", "(LOneHeavyLoadModel;)V"⟩
abbrev cX7_image : ByteArray := prog_9_method_87_code
def yX7_image : MethodName := ⟨RX7, "image", "()I"⟩
abbrev cX7_back : ByteArray := prog_9_method_88_code
def yX7_back : MethodName := ⟨RX7, "back", "()I"⟩
abbrev cX7_status : ByteArray := prog_9_method_89_code
def yX7_status : MethodName := ⟨RX7, "status", "(I)I"⟩
def RJ6 : String := "java/lang/Integer"
abbrev cJ6_bitCount_0f7a4 : ByteArray := prog_10_method_49_code
def yJ6_bitCount_0f7a4 : MethodName := ⟨RJ6, "bitCount", "(I)I"⟩
def RJ9 : String := "java/lang/Math"
abbrev cJ9_max_7cf53 : ByteArray := prog_11_method_65_code
def yJ9_max_7cf53 : MethodName := ⟨RJ9, "max", "(II)I"⟩
abbrev cJ9_min_7cf53 : ByteArray := prog_11_method_69_code
def yJ9_min_7cf53 : MethodName := ⟨RJ9, "min", "(II)I"⟩
abbrev cJ9_min_f86c9 : ByteArray := prog_11_method_70_code
def yJ9_min_f86c9 : MethodName := ⟨RJ9, "min", "(JJ)J"⟩
def RJ0 : String := "java/lang/String"
abbrev cJ0_length_8abf5 : ByteArray := prog_12_method_54_code
def yJ0_length_8abf5 : MethodName := ⟨RJ0, "length", "()I"⟩
abbrev cJ0_charAt_5068e : ByteArray := prog_12_method_56_code
def yJ0_charAt_5068e : MethodName := ⟨RJ0, "charAt", "(I)C"⟩
abbrev cJ0_coder_7d493 : ByteArray := prog_12_method_152_code
def yJ0_coder_7d493 : MethodName := ⟨RJ0, "coder", "()B"⟩
abbrev cJ0_isLatin1_aae02 : ByteArray := prog_12_method_154_code
def yJ0_isLatin1_aae02 : MethodName := ⟨RJ0, "isLatin1", "()Z"⟩
abbrev cJ0_checkIndex_df160 : ByteArray := prog_12_method_155_code
def yJ0_checkIndex_df160 : MethodName := ⟨RJ0, "checkIndex", "(II)V"⟩
def RJ1 : String := "java/lang/StringLatin1"
abbrev cJ1_charAt_3b067 : ByteArray := prog_13_method_2_code
def yJ1_charAt_3b067 : MethodName := ⟨RJ1, "charAt", "([BI)C"⟩
def RJ10 : String := "java/lang/System"
def RJ3 : String := "jdk/internal/util/Preconditions"
abbrev cJ3_checkIndex_8e157 : ByteArray := prog_16_method_11_code
def yJ3_checkIndex_8e157 : MethodName := ⟨RJ3, "checkIndex", "(IILjava/util/function/BiFunction;)I"⟩
def RL : String := "OneHeavyLoadLaw"
abbrev cL_law : ByteArray := code
abbrev vwCl : List vw_C := [(RX0, TX0, 8), (RX1, TX1, 5), (RX2, TX2, 4), (RX3, TX3, 3), (RX4, TX4, 6), (RX5, TX5, 7), (RX6, TX6, 9), (RX7, TX7, 29)]
section
/-! The words that methods need are taken from one list, oh_t: all good words of the tables. A contract stands over the world of the cells that its method touches. -/
def oh_t : List Cond := lw_tbl.filter goodWord
theorem oh_of {w : Cond} {i : Nat} (h : lw_tbl[i]? = some w) (hg : goodWord w = true) : w ∈ oh_t := List.mem_filter.mpr ⟨List.mem_of_getElem? h, hg⟩
theorem oh_good {w : Cond} (h : w ∈ oh_t) : w ∈ oh_t ∧ ((w.onTables && w.keeps) = true ∨ ∃ ty, w = .arrayClass ty) := ⟨h, good_of_word (List.mem_filter.mp h).2⟩
theorem oh_ofs {ws : List Cond} (ps : List Nat) (hp : ws = ps.filterMap (fun i => lw_tbl[i]?)) (hg : ws.all goodWord = true) : ∀ w ∈ ws, w ∈ oh_t := by
  intro w hw
  have h1 := List.all_eq_true.mp hg w hw
  rw [hp] at hw
  obtain ⟨i, -, hi⟩ := List.mem_filterMap.mp hw
  exact oh_of hi h1
abbrev oh_w (y : MethodName) (b : ByteArray) (n : Nat) (r : Option FieldType) : List Cond := Cond.code y b n r :: oh_t
theorem oh_gW {w : Cond} (h : w ∈ oh_t) : GoodIn oh_t (w :: oh_t) := fun v hv => (List.mem_cons.mp hv).elim (fun e => by rw [e]; exact oh_good h) oh_good
theorem oh_gV {own C : String} {i : Nat} {y : MethodName} {b : ByteArray} {n : Nat} {r : Option FieldType} (h1 : Cond.methodLink own i y ∈ oh_t) (h2 : Cond.instanceMethod y ∈ oh_t) (h3 : Cond.selects C y y ∈ oh_t) (h4 : Cond.initialized C ∈ oh_t) (h5 : Cond.code y b n r ∈ oh_t) : GoodIn oh_t (wsV own i C y (oh_w y b n r)) := by
  intro v hv
  simp only [wsV, List.cons_append, List.nil_append, List.mem_cons] at hv
  rcases hv with rfl | rfl | rfl | rfl | rfl | hv
  · exact oh_good h1
  · exact oh_good h2
  · exact oh_good h3
  · exact oh_good h4
  · exact oh_good h5
  · exact oh_good hv
theorem oh_gS {own : String} {i : Nat} {y : MethodName} {b : ByteArray} {n : Nat} {r : Option FieldType} (h1 : Cond.methodLink own i y ∈ oh_t) (h2 : Cond.static y ∈ oh_t) (h4 : Cond.initialized y.cls ∈ oh_t) (h5 : Cond.code y b n r ∈ oh_t) : GoodIn oh_t (va_wsS own i y (oh_w y b n r)) := by
  intro v hv
  simp only [va_wsS, List.cons_append, List.nil_append, List.mem_cons] at hv
  rcases hv with rfl | rfl | rfl | rfl | hv
  · exact oh_good h1
  · exact oh_good h2
  · exact oh_good h4
  · exact oh_good h5
  · exact oh_good hv
/-- array classes: 0 int[], 1 long[], 2 int[][], 3 long[][] -/
abbrev oh_ty (E : Nat → ClassId) : List (ClassId × FieldType) := [(E 0, .int), (E 1, .long), (E 2, .array .int), (E 3, .array .long)]
/-- members of the nest that are private, and what is read through the nest -/
abbrev oh_nm : List (String × Nat × MethodName × String) := [("OneHeavyLoad$Ways", 17, ⟨"OneHeavyLoad$Pack", "<init>", "()V"⟩, "OneHeavyLoad"), ("OneHeavyLoad$Shelves", 36, ⟨"OneHeavyLoad", "within", "(III)Z"⟩, "OneHeavyLoad"), ("OneHeavyLoad$Tape", 58, ⟨"OneHeavyLoad", "within", "(III)Z"⟩, "OneHeavyLoad"), ("OneHeavyLoad$Pack", 43, ⟨"OneHeavyLoad", "roundedUp", "(II)I"⟩, "OneHeavyLoad"), ("OneHeavyLoad$Pack", 52, ⟨"OneHeavyLoad", "cut", "(II)I"⟩, "OneHeavyLoad"), ("OneHeavyLoad$Ways", 75, ⟨"OneHeavyLoad", "roundedUp", "(II)I"⟩, "OneHeavyLoad")]
abbrev oh_nf : List (String × Nat × String × String × String × String) := [("OneHeavyLoad$Land", 9, "OneHeavyLoad", "ROOM", "[I", "OneHeavyLoad"), ("OneHeavyLoad$Ways", 22, "OneHeavyLoad", "ROOM", "[I", "OneHeavyLoad"), ("OneHeavyLoad$Reader", 19, "OneHeavyLoad", "ROOM", "[I", "OneHeavyLoad"), ("OneHeavyLoad$Land", 57, "OneHeavyLoad", "TAKEN_FOR", "[I", "OneHeavyLoad"), ("OneHeavyLoad$Reader", 166, "OneHeavyLoad", "MAX_SETTING", "[I", "OneHeavyLoad")]
/-- String constants: class, entry, text, and the place of the address -/
abbrev oh_sr : List (String × Nat × String × Nat) := [("OneHeavyLoad$Reader", 61, "road", 3), ("OneHeavyLoad$Reader", 117, "miles", 4), ("OneHeavyLoad$Reader", 123, "rise", 5), ("OneHeavyLoad$Reader", 129, "turn", 6), ("OneHeavyLoad$Reader", 131, "parish", 7), ("OneHeavyLoad$Reader", 70, "bridge", 8), ("OneHeavyLoad$Reader", 137, "kind", 9), ("OneHeavyLoad$Reader", 139, "span", 10), ("OneHeavyLoad$Reader", 141, "axle", 11), ("OneHeavyLoad$Reader", 143, "all", 12), ("OneHeavyLoad$Reader", 145, "prop", 13), ("OneHeavyLoad$Reader", 75, "waggon", 14), ("OneHeavyLoad$Reader", 155, "space", 15), ("OneHeavyLoad$Reader", 157, "tare", 16), ("OneHeavyLoad$Reader", 80, "part", 17), ("OneHeavyLoad$Reader", 85, "load", 18), ("OneHeavyLoad$Reader", 94, "mile", 19), ("OneHeavyLoadModel", 200, "road", 20), ("OneHeavyLoadModel", 219, "miles", 21), ("OneHeavyLoadModel", 221, "rise", 22), ("OneHeavyLoadModel", 226, "turn", 23), ("OneHeavyLoadModel", 228, "parish", 24), ("OneHeavyLoadModel", 205, "bridge", 25), ("OneHeavyLoadModel", 230, "kind", 26), ("OneHeavyLoadModel", 232, "span", 27), ("OneHeavyLoadModel", 234, "axle", 28), ("OneHeavyLoadModel", 236, "all", 29), ("OneHeavyLoadModel", 238, "prop", 30), ("OneHeavyLoadModel", 209, "waggon", 31), ("OneHeavyLoadModel", 210, "space", 32), ("OneHeavyLoadModel", 212, "tare", 33), ("OneHeavyLoadModel", 214, "part", 34), ("OneHeavyLoadModel", 215, "load", 35), ("OneHeavyLoadModel", 217, "mile", 36)]
def oh_room : Nat → Int32 := fun j => if j = 0 then 24 else if j = 1 then 16 else 5
def oh_maxs : Nat → Int32 := fun j => if j = 0 then 900 else if j = 1 then 99 else 1
def oh_tak : Nat → Int32 := fun j => if j = 0 then 1 else if j = 1 then 3 else if j = 2 then 7 else if j = 3 then 9 else if j = 4 then 17 else 49
/-- arrays of arrays: their class stands -/
def oh_ao (t : FieldType) (U : State) : Prop := (Cond.arrayOver (.array t)).before #[] U = true
theorem oh_ao.use {t : FieldType} {a : Array Value} {U : State} (h : oh_ao t U) : (Cond.arrayOver (.array t)).before a U = true := h
theorem oh_ao.moved {t : FieldType} {u U : State} (hvm : u.vm.Alike U.vm) (h : oh_ao t u) : oh_ao t U := Jvm.Stand.arrayOver_alikeB hvm h
/-- the String constants: the texts' bytes (G from 40 on: the rows of bytes) -/
def oh_txt : List (List Int32) := [[114, 111, 97, 100], [109, 105, 108, 101, 115], [114, 105, 115, 101], [116, 117, 114, 110], [112, 97, 114, 105, 115, 104], [98, 114, 105, 100, 103, 101], [107, 105, 110, 100], [115, 112, 97, 110], [97, 120, 108, 101], [97, 108, 108], [112, 114, 111, 112], [119, 97, 103, 103, 111, 110], [115, 112, 97, 99, 101], [116, 97, 114, 101], [112, 97, 114, 116], [108, 111, 97, 100], [109, 105, 108, 101], [114, 111, 97, 100], [109, 105, 108, 101, 115], [114, 105, 115, 101], [116, 117, 114, 110], [112, 97, 114, 105, 115, 104], [98, 114, 105, 100, 103, 101], [107, 105, 110, 100], [115, 112, 97, 110], [97, 120, 108, 101], [97, 108, 108], [112, 114, 111, 112], [119, 97, 103, 103, 111, 110], [115, 112, 97, 99, 101], [116, 97, 114, 101], [112, 97, 114, 116], [108, 111, 97, 100], [109, 105, 108, 101]]
def oh_len (j : Nat) : Nat := (oh_txt.getD j []).length
def oh_byt (j i : Nat) : Int32 := (oh_txt.getD j []).getD i 0
def oh_str (G : Nat → Nat) (A : Nat → Prop) (U : State) : Prop := va_Z "java/lang/String" "COMPACT_STRINGS" "Z" (.int 1) A U U.heap ∧ (va_Zq "jdk/internal/util/Preconditions" "SIOOBE_FORMATTER" "Ljava/util/function/BiFunction;" A U U.heap) ∧ ∀ j : Nat, j < 34 → va_O "java/lang/String" (G (3 + j)) A U U.heap ∧ va_OF "java/lang/String" "coder" "B" (.int 0) (G (3 + j)) A U U.heap ∧ va_OF "java/lang/String" "value" "[B" (.ref (G (40 + j))) (G (3 + j)) A U U.heap ∧ va_T .byte (G (40 + j)) (oh_len j) (fun i => .int (oh_byt j i)) A U U.heap
theorem oh_str.same {G : Nat → Nat} {A : Nat → Prop} {u U : State} (hv : u.vm = U.vm) (hh : U.heap = u.heap) (h : oh_str G A u) : oh_str G A U := by
  have ha : u.vm.Alike U.vm := by rw [hv]; exact Vm.Alike.refl _
  obtain ⟨h1, h3, h2⟩ := h
  unfold oh_str
  rw [hh]
  exact ⟨h1.moved ha, h3.moved ha, fun j hj => ⟨va_O.moved ha (h2 j hj).1, va_OF.moved ha (h2 j hj).2.1, va_OF.moved ha (h2 j hj).2.2.1, va_T.moved ha (h2 j hj).2.2.2⟩⟩
theorem oh_str.to {G : Nat → Nat} {A B : Nat → Prop} {s U : State} {H : Heap} {locs : List Loc} (h : oh_str G A s) (hU : U.heap = H) (hW : s.WarmedH U.vm) (hS : va_S A s.heap H locs) (hAB : ∀ q, B q → A q) : oh_str G B U := by
  have ha := hW.alike
  obtain ⟨h1, h3, h2⟩ := h
  unfold oh_str
  rw [hU]
  exact ⟨((h1.moved ha).kept hS.2.1).narrow hAB, ((h3.moved ha).kept hS.2.1).narrow hAB, fun j hj => ⟨((va_O.moved ha (h2 j hj).1).kept hS.2.1).narrow hAB, ((va_OF.moved ha (h2 j hj).2.1).kept hS.2.1).narrow hAB, ((va_OF.moved ha (h2 j hj).2.2.1).kept hS.2.1).narrow hAB, ((va_T.moved ha (h2 j hj).2.2.2).kept hS.2.1).narrow hAB⟩⟩
/-- what every method is given of the launch: G has the addresses (0 to 2 the tables, from 3 on the texts) -/
def oh_G (G : Nat → Nat) (A : Nat → Prop) (U : State) : Prop :=
  (∀ q ∈ oh_nm, va_Nw (.methodLinkNest q.1 q.2.1 q.2.2.1 q.2.2.2) U) ∧ (∀ q ∈ oh_nf, va_Nw (.fieldLinkNest q.1 q.2.1 q.2.2.1 q.2.2.2.1 q.2.2.2.2.1 q.2.2.2.2.2) U) ∧ (∀ q ∈ oh_sr, vk_R q.1 q.2.1 q.2.2.1 (G q.2.2.2) U) ∧
  (va_Z "OneHeavyLoad" "ROOM" "[I" (.ref (G 0)) A U U.heap ∧ va_T .int (G 0) 4 (fun j => .int (oh_room j)) A U U.heap) ∧
  (va_Z "OneHeavyLoad" "MAX_SETTING" "[I" (.ref (G 1)) A U U.heap ∧ va_T .int (G 1) 3 (fun j => .int (oh_maxs j)) A U U.heap) ∧
  (va_Z "OneHeavyLoad" "TAKEN_FOR" "[I" (.ref (G 2)) A U U.heap ∧ va_T .int (G 2) 6 (fun j => .int (oh_tak j)) A U U.heap) ∧ oh_ao .int U ∧ oh_ao .long U ∧ oh_str G A U
theorem oh_G.same {G : Nat → Nat} {A : Nat → Prop} {u U : State} (hv : u.vm = U.vm) (hh : U.heap = u.heap) (h : oh_G G A u) : oh_G G A U := by
  have ha : u.vm.Alike U.vm := by rw [hv]; exact Vm.Alike.refl _
  obtain ⟨h1, h2, h3, ⟨a1, a2⟩, ⟨b1, b2⟩, ⟨c1, c2⟩, o1, o2, st⟩ := h
  unfold oh_G
  rw [hh]
  exact ⟨fun q hq => (h1 q hq).same rfl hv, fun q hq => (h2 q hq).same rfl hv, fun q hq => (h3 q hq).same hv.symm, ⟨a1.moved ha, a2.moved ha⟩, ⟨b1.moved ha, b2.moved ha⟩, ⟨c1.moved ha, c2.moved ha⟩, o1.moved ha, o2.moved ha, st.same hv hh⟩
theorem oh_G.to {G : Nat → Nat} {A B : Nat → Prop} {s U : State} {H : Heap} {locs : List Loc} (h : oh_G G A s) (hU : U.heap = H) (hW : s.WarmedH U.vm) (hS : va_S A s.heap H locs) (hAB : ∀ q, B q → A q) : oh_G G B U := by
  have ha := hW.alike
  obtain ⟨h1, h2, h3, ⟨a1, a2⟩, ⟨b1, b2⟩, ⟨c1, c2⟩, o1, o2, st⟩ := h
  unfold oh_G
  rw [hU]
  exact ⟨fun q hq => (h1 q hq).warmM hW, fun q hq => (h2 q hq).warmF hW, fun q hq => (h3 q hq).warm hW, ⟨((a1.moved ha).kept hS.2.1).narrow hAB, ((a2.moved ha).kept hS.2.1).narrow hAB⟩, ⟨((b1.moved ha).kept hS.2.1).narrow hAB, ((b2.moved ha).kept hS.2.1).narrow hAB⟩, ⟨((c1.moved ha).kept hS.2.1).narrow hAB, ((c2.moved ha).kept hS.2.1).narrow hAB⟩, o1.moved ha, o2.moved ha, st.to hU hW hS hAB⟩
/-- a method that only reads: its start -/
def oh_Pp (D : va_G) (E : Nat → ClassId) (G : Nat → Nat) (as : List Value) (ws : va_W) : Array Value → State → Prop := va_Pc as (fun U => va_P D vwCl ws U.heap ∧ va_K D vwCl (oh_ty E) U ∧ oh_G G (fun _ => False) U)
/-- a method that writes: its start -/
def oh_Pm (D : va_G) (E : Nat → ClassId) (G : Nat → Nat) (as : List Value) (ws : va_W) (sz : Nat) : Array Value → State → Prop := va_Pc as (fun U => U.heap.size = sz ∧ va_P D vwCl ws U.heap ∧ va_K D vwCl (oh_ty E) U ∧ va_D (fun _ => True) ws ∧ oh_G G (va_A ws sz) U)
/-- behind a method that writes: the cells -/
def oh_B (D : va_G) (A : Nat → Prop) {S : Type} (W1 : S → va_W) : S → State → Prop := fun u t => va_P D vwCl (W1 u) t.heap ∧ va_D A (W1 u)
theorem oh_blp {D : va_G} {E : Nat → ClassId} {G : Nat → Nat} {as : List Value} {ws : va_W} : FrameBlind (oh_Pp D E G as ws) := fun a U g mk q => ⟨q.1, q.2.1, va_K.moved (u := U) (U := U.calling g mk a) (Vm.Alike.refl U.vm) q.2.2.1, oh_G.same (u := U) (U := U.calling g mk a) rfl rfl q.2.2.2⟩
theorem oh_blm {D : va_G} {E : Nat → ClassId} {G : Nat → Nat} {as : List Value} {ws : va_W} {sz : Nat} : FrameBlind (oh_Pm D E G as ws sz) := fun a U g mk q => ⟨q.1, q.2.1, q.2.2.1, va_K.moved (u := U) (U := U.calling g mk a) (Vm.Alike.refl U.vm) q.2.2.2.1, q.2.2.2.2.1, oh_G.same (u := U) (U := U.calling g mk a) rfl rfl q.2.2.2.2.2⟩
theorem oh_fm {ws wc : va_W} {is : List Nat} (h : is.map (fun i => ws[i]?) = wc.map some) : is.filterMap (fun i => ws[i]?) = wc := by
  have h1 := congrArg (List.filterMap id) h
  simpa [List.filterMap_map] using h1
section OHC
variable {p : Program} {l : Launch} {e : Env} {R : Room} {s : State} {m : MethodId} {args : Array Value} {below : List Frame} {meth : Method} {c : Code} {H : Heap} {locs : List Loc} {cells slots : Nat} {Q : State → Prop}
variable {cc bytes : ByteArray} {pc nL maxL mc ms n index b : Nat} {ls : Array Slot} {st0 rest As : List Value} {D : va_G} {E : Nat → ClassId} {G : Nat → Nat} {A : Nat → Prop} {ws wc wr : va_W} {own C host : String} {y : MethodName} {ret : Option FieldType} {rm : Room} {v : Int32} {vl : Int64}
theorem oh_pre (hK : va_K D vwCl (oh_ty E) s) (hP : va_P D vwCl wc H) (hG : oh_G G A s) (hS : va_S A s.heap H locs) (as : List Value) : ∀ U : State, U.heap = H → s.WarmedH U.vm → oh_Pp D E G as wc as.toArray U := fun U hU hW => ⟨rfl, by rw [hU]; exact hP, va_K.moved hW.alike hK, hG.to hU hW hS (fun _ h => h.elim)⟩
theorem oh_prm (hK : va_K D vwCl (oh_ty E) s) (hP : va_P D vwCl wc H) (hDc : va_D A wc) (hG : oh_G G A s) (hS : va_S A s.heap H locs) (hF : ∀ q, va_A wc H.size q → A q) (as : List Value) : ∀ U : State, U.heap = H → s.WarmedH U.vm → oh_Pm D E G as wc H.size as.toArray U := fun U hU hW => ⟨rfl, by rw [hU], by rw [hU]; exact hP, va_K.moved hW.alike hK, hDc.weaken (fun _ _ _ _ => trivial), hG.to hU hW hS hF⟩
/-- calls of methods that write -/
theorem oh_mV {S : Type} {post : Int32 → S → Prop} {W1 : S → va_W} (Sx : CallFix p m c cc nL s args oh_t own) (hM : Met l y (oh_w y bytes maxL ret) rm (oh_Pm D E G (.ref b :: As) wc H.size) (va_Qi post (oh_B D (va_A wc H.size) W1) (va_A wc H.size)) mc ms (va_A wc H.size)) (cw : CallW R s args own C index y bytes maxL ret (oh_w y bytes maxL ret) rm mc ms n) (hK : va_K D vwCl (oh_ty E) s) (hP : va_P D vwCl ws H) (hD : va_D A ws) (hG : oh_G G A s) (hS : va_S A s.heap H locs) (hA : ∀ q, s.heap.size ≤ q → A q)
    (isC isR : List Nat) (hC : isC.map (fun i => ws[i]?) = wc.map some) (hR : isR.map (fun i => ws[i]?) = wr.map some) (hnC : va_nd isC = true) (hnR : va_nd isR = true) (hdis : ∀ i ∈ isR, i ∉ isC) (hrec : ∃ cell : Cell, H[b]? = some cell ∧ cell.vm.isStatics = false ∧ s.vm.findClass C = some cell.cls)
    (hn : As.length = n) (hsize : ls.size = nL) (hst : st0 = As.reverse ++ .ref b :: rest) (hW : (rest.map fun v => v.category).sum ≤ 8) (hdg : decode cc pc = .ok (.invokevirtual index, 3)) (hf : cells + mc ≤ R.cells ∧ slots + ms ≤ R.slots)
    (kk : ∀ (r : Int32) (u : S) (H1 : Heap) (locs1 : List Loc), post r u → va_P D vwCl (wr ++ W1 u) H1 → va_D A (wr ++ W1 u) → va_S A s.heap H1 locs1 → W p l e R s m args below meth c H1 locs1 (cells + mc) (slots + ms) Q (F0 m (pc + 3) ls (.int r :: rest))) : W p l e R s m args below meth c H locs cells slots Q (F0 m pc ls st0) := by
  have hF := va_free (wc := wc) hD hS hA isC hC
  refine va_calli (va_runV (As := As) (rest := rest) Sx hM cw ⟨oh_blm, hrec, oh_prm hK (hP.sub isC (oh_fm hC)) (hD.sub isC hnC hC) hG hS hF (.ref b :: As)⟩ rfl hn hsize hst (lv_room hW) hdg hf) hS (fun q _ h => hF q h) hF (fun r u t H1 locs1 ht hvm hw hB hz1 hk1 hS1 => ?_)
  obtain ⟨hP1, hD1⟩ := hB
  rw [ht] at hP1
  obtain ⟨hP2, hD2⟩ := va_join hP hD isC isR hC hR hnR hdis hk1 hF hP1 hD1
  exact kk r u H1 locs1 hw hP2 hD2 hS1
theorem oh_mVl {S : Type} {post : Int64 → S → Prop} {W1 : S → va_W} (Sx : CallFix p m c cc nL s args oh_t own) (hM : Met l y (oh_w y bytes maxL ret) rm (oh_Pm D E G (.ref b :: As) wc H.size) (va_Ql post (oh_B D (va_A wc H.size) W1) (va_A wc H.size)) mc ms (va_A wc H.size)) (cw : CallW R s args own C index y bytes maxL ret (oh_w y bytes maxL ret) rm mc ms n) (hK : va_K D vwCl (oh_ty E) s) (hP : va_P D vwCl ws H) (hD : va_D A ws) (hG : oh_G G A s) (hS : va_S A s.heap H locs) (hA : ∀ q, s.heap.size ≤ q → A q)
    (isC isR : List Nat) (hC : isC.map (fun i => ws[i]?) = wc.map some) (hR : isR.map (fun i => ws[i]?) = wr.map some) (hnC : va_nd isC = true) (hnR : va_nd isR = true) (hdis : ∀ i ∈ isR, i ∉ isC) (hrec : ∃ cell : Cell, H[b]? = some cell ∧ cell.vm.isStatics = false ∧ s.vm.findClass C = some cell.cls)
    (hn : As.length = n) (hsize : ls.size = nL) (hst : st0 = As.reverse ++ .ref b :: rest) (hW : (rest.map fun v => v.category).sum ≤ 8) (hdg : decode cc pc = .ok (.invokevirtual index, 3)) (hf : cells + mc ≤ R.cells ∧ slots + ms ≤ R.slots)
    (kk : ∀ (r : Int64) (u : S) (H1 : Heap) (locs1 : List Loc), post r u → va_P D vwCl (wr ++ W1 u) H1 → va_D A (wr ++ W1 u) → va_S A s.heap H1 locs1 → W p l e R s m args below meth c H1 locs1 (cells + mc) (slots + ms) Q (F0 m (pc + 3) ls (.long r :: rest))) : W p l e R s m args below meth c H locs cells slots Q (F0 m pc ls st0) := by
  have hF := va_free (wc := wc) hD hS hA isC hC
  refine va_calll (va_runV (As := As) (rest := rest) Sx hM cw ⟨oh_blm, hrec, oh_prm hK (hP.sub isC (oh_fm hC)) (hD.sub isC hnC hC) hG hS hF (.ref b :: As)⟩ rfl hn hsize hst (lv_room hW) hdg hf) hS (fun q _ h => hF q h) hF (fun r u t H1 locs1 ht hvm hw hB hz1 hk1 hS1 => ?_)
  obtain ⟨hP1, hD1⟩ := hB
  rw [ht] at hP1
  obtain ⟨hP2, hD2⟩ := va_join hP hD isC isR hC hR hnR hdis hk1 hF hP1 hD1
  exact kk r u H1 locs1 hw hP2 hD2 hS1
theorem oh_mI {S : Type} {post : S → Prop} {W1 : S → va_W} (Sx : CallFix p m c cc nL s args oh_t own) (hM : Met l y (oh_w y bytes maxL none) rm (oh_Pm D E G (.ref b :: As) wc H.size) (va_Qv post (oh_B D (va_A wc H.size) W1) (va_A wc H.size)) mc ms (va_A wc H.size)) (cw : CallB R s args own index y bytes maxL none (oh_w y bytes maxL none) rm mc ms n ∧ y.name = "<init>" ∧ (Cond.instanceMethod y).before args s = true) (hK : va_K D vwCl (oh_ty E) s) (hP : va_P D vwCl ws H) (hD : va_D A ws) (hG : oh_G G A s) (hS : va_S A s.heap H locs) (hA : ∀ q, s.heap.size ≤ q → A q)
    (isC isR : List Nat) (hC : isC.map (fun i => ws[i]?) = wc.map some) (hR : isR.map (fun i => ws[i]?) = wr.map some) (hnC : va_nd isC = true) (hnR : va_nd isR = true) (hdis : ∀ i ∈ isR, i ∉ isC)
    (hn : As.length = n) (hsize : ls.size = nL) (hst : st0 = As.reverse ++ .ref b :: rest) (hW : (rest.map fun v => v.category).sum ≤ 8) (hdg : decode cc pc = .ok (.invokespecial index, 3)) (hf : cells + mc ≤ R.cells ∧ slots + ms ≤ R.slots)
    (kk : ∀ (u : S) (H1 : Heap) (locs1 : List Loc), post u → va_P D vwCl (wr ++ W1 u) H1 → va_D A (wr ++ W1 u) → va_S A s.heap H1 locs1 → W p l e R s m args below meth c H1 locs1 (cells + mc) (slots + ms) Q (F0 m (pc + 3) ls rest)) : W p l e R s m args below meth c H locs cells slots Q (F0 m pc ls st0) := by
  have hF := va_free (wc := wc) hD hS hA isC hC
  refine va_callv (va_runI (As := As) (rest := rest) Sx hM cw ⟨oh_blm, oh_prm hK (hP.sub isC (oh_fm hC)) (hD.sub isC hnC hC) hG hS hF (.ref b :: As)⟩ rfl hn hsize hst (lv_room hW) hdg hf) hS (fun q _ h => hF q h) hF (fun u t H1 locs1 ht hvm hw hB hz1 hk1 hS1 => ?_)
  obtain ⟨hP1, hD1⟩ := hB
  rw [ht] at hP1
  obtain ⟨hP2, hD2⟩ := va_join hP hD isC isR hC hR hnR hdis hk1 hF hP1 hD1
  exact kk u H1 locs1 hw hP2 hD2 hS1
theorem oh_mIN {S : Type} {post : S → Prop} {W1 : S → va_W} (Sx : CallFix p m c cc nL s args oh_t own) (hM : Met l y (oh_w y bytes maxL none) rm (oh_Pm D E G (.ref b :: As) wc H.size) (va_Qv post (oh_B D (va_A wc H.size) W1) (va_A wc H.size)) mc ms (va_A wc H.size)) (cw : va_CN R s args own index y host bytes maxL none (oh_w y bytes maxL none) rm mc ms n ∧ y.name = "<init>" ∧ (Cond.instanceMethod y).before args s = true) (hK : va_K D vwCl (oh_ty E) s) (hP : va_P D vwCl ws H) (hD : va_D A ws) (hG : oh_G G A s) (hS : va_S A s.heap H locs) (hA : ∀ q, s.heap.size ≤ q → A q)
    (isC isR : List Nat) (hC : isC.map (fun i => ws[i]?) = wc.map some) (hR : isR.map (fun i => ws[i]?) = wr.map some) (hnC : va_nd isC = true) (hnR : va_nd isR = true) (hdis : ∀ i ∈ isR, i ∉ isC)
    (hn : As.length = n) (hsize : ls.size = nL) (hst : st0 = As.reverse ++ .ref b :: rest) (hW : (rest.map fun v => v.category).sum ≤ 8) (hdg : decode cc pc = .ok (.invokespecial index, 3)) (hf : cells + mc ≤ R.cells ∧ slots + ms ≤ R.slots)
    (kk : ∀ (u : S) (H1 : Heap) (locs1 : List Loc), post u → va_P D vwCl (wr ++ W1 u) H1 → va_D A (wr ++ W1 u) → va_S A s.heap H1 locs1 → W p l e R s m args below meth c H1 locs1 (cells + mc) (slots + ms) Q (F0 m (pc + 3) ls rest)) : W p l e R s m args below meth c H locs cells slots Q (F0 m pc ls st0) := by
  have hF := va_free (wc := wc) hD hS hA isC hC
  refine va_callv (va_runIN (As := As) (rest := rest) Sx hM cw ⟨oh_blm, oh_prm hK (hP.sub isC (oh_fm hC)) (hD.sub isC hnC hC) hG hS hF (.ref b :: As)⟩ rfl hn hsize hst (lv_room hW) hdg hf) hS (fun q _ h => hF q h) hF (fun u t H1 locs1 ht hvm hw hB hz1 hk1 hS1 => ?_)
  obtain ⟨hP1, hD1⟩ := hB
  rw [ht] at hP1
  obtain ⟨hP2, hD2⟩ := va_join hP hD isC isR hC hR hnR hdis hk1 hF hP1 hD1
  exact kk u H1 locs1 hw hP2 hD2 hS1
theorem oh_nrm {x v : Int32} (h : x = v) (k : W p l e R s m args below meth c H locs cells slots Q (F0 m pc ls (.int v :: rest))) : W p l e R s m args below meth c H locs cells slots Q (F0 m pc ls (.int x :: rest)) := by subst h; exact k
theorem oh_ne {x y : Int32} {k : Int} (h : ¬ x = y) (hy : y.toInt = k) : x.toInt ≠ k := fun e => h (Int32.toInt_inj.mp (e.trans hy.symm))
/-- a row's contents may be told otherwise, as long as its places agree -/
theorem oh_rwi {k a : Nat} {cA : ClassId} {f g : Nat → Int32} {N : Nat} (hk : ws[k]? = some (a, .inl (cA, N, .inl f))) (h : ∀ j, j < N → f j = g j) (hP : va_P D vwCl ws H) : va_P D vwCl (ws.set k (a, .inl (cA, N, .inl g))) H := by
  intro i q hq
  by_cases e : k = i
  · subst e
    have hl : k < ws.length := (List.getElem?_eq_some_iff.mp hk).1
    rw [List.getElem?_set_self hl] at hq
    cases hq
    have h1 : H[a]? = some (vp_cell cA (N, .inl f)) := hP k _ hk
    show H[a]? = some (vp_cell cA (N, .inl g))
    rw [h1]
    show some (arrV cA N (fun j => .int (f j))) = some (arrV cA N (fun j => .int (g j)))
    have e2 : (fun j : Fin N => Value.int (f j.val)) = (fun j : Fin N => Value.int (g j.val)) := funext (fun j => by rw [h j.val j.isLt])
    unfold arrV
    rw [e2]
  · rw [List.getElem?_set_ne e] at hq
    exact hP i q hq
theorem oh_rwD {k a : Nat} {x y : va_E} (hk : ws[k]? = some (a, x)) (hD : va_D A ws) : va_D A (ws.set k (a, y)) := by
  have key : ∀ (i : Nat) (q : Nat × va_E), (ws.set k (a, y))[i]? = some q → ∃ z, ws[i]? = some (q.1, z) := by
    intro i q hq
    by_cases e : k = i
    · subst e
      have hl : k < ws.length := (List.getElem?_eq_some_iff.mp hk).1
      rw [List.getElem?_set_self hl] at hq
      cases hq
      exact ⟨x, hk⟩
    · rw [List.getElem?_set_ne e] at hq
      exact ⟨q.2, hq⟩
  refine ⟨fun i j q r hi hj e => ?_, fun i q hi => ?_⟩
  · obtain ⟨z1, h1⟩ := key i q hi
    obtain ⟨z2, h2⟩ := key j r hj
    exact hD.1 i j _ _ h1 h2 e
  · obtain ⟨z1, h1⟩ := key i q hi
    exact hD.2 i (q.1, z1) h1
/-- one array class a type -/
theorem oh_same {tys : List (ClassId × FieldType)} {i j : Nat} {cA cB : ClassId} {ty : FieldType} (hK : va_K D vwCl tys s) (hi : tys[i]? = some (cA, ty)) (hj : tys[j]? = some (cB, ty)) (ht : ∀ C, ty ≠ .object C) : cA = cB := by
  have h1 := (hK.2 i _ hi).2
  have h2 := (hK.2 j _ hj).2
  cases ty with
  | object C => exact absurd rfl (ht C)
  | _ => exact Option.some.inj (h1.symm.trans h2)
/-- what lies in an array of arrays -/
theorem oh_aald (hexec : p.tables.exec = Jvm.exec) (hb : c.code = cc) {tys : List (ClassId × FieldType)} {a : Nat} (hK : va_K D vwCl tys s) (hP : va_P D vwCl ws H) (q0 t0 : Nat) {cA : ClassId} {ty : FieldType} {k : Nat} {f : Nat → Option Nat} (ha : ws[q0]? = some (a, .inl (cA, k, .inr (.inr (.inr (.inr f)))))) (ht : tys[t0]? = some (cA, .array ty)) {i : Int32} (hin : vp_in i k) {r : Nat} (hf : f i.toNatClampNeg = some r) (hdg : decode cc pc = .ok (.aaload, 1))
    (kk : W p l e R s m args below meth c H locs cells slots Q (F0 m (pc + 1) ls (.ref r :: rest))) : W p l e R s m args below meth c H locs cells slots Q (F0 m pc ls (.int i :: .ref a :: rest)) := by
  have hlt : i.toNatClampNeg < k := Nat.not_le.mp fun q => hin (Or.inr q)
  exact W.aald (v := .ref r) (ty := .array ty) hexec hb (hP q0 _ ha) ((hK.2 t0 _ ht).1 k (fun j => va_rf (f j))) rfl (fun q => by cases q) (by show ¬ (i < 0 ∨ (arrV _ _ _).slots.size ≤ _); rw [arrV_size]; exact hin) (by show (arrV _ _ _).slots[_]? = _; rw [arrV_read _ _ hlt, hf]; rfl) rfl rfl hdg kk
end OHC
end
section
/-! ONE WORLD A SIDE: n cells, cell k at address a k with contents C k. A method's contract speaks of the whole world of its side; what cells may hold is told by their types (intervals). -/
def oh_W (n : Nat) (a : Nat → Nat) (C : Nat → va_E) : va_W := (List.range n).map (fun k => (a k, C k))
def updc (C : Nat → va_E) (k : Nat) (x : va_E) : Nat → va_E := fun i => if i = k then x else C i
theorem updc_eq {C : Nat → va_E} {k : Nat} {x : va_E} : updc C k x k = x := if_pos rfl
theorem updc_ne {C : Nat → va_E} {k i : Nat} {x : va_E} (h : i ≠ k) : updc C k x i = C i := if_neg h
theorem oh_wg0 {n : Nat} {a : Nat → Nat} {C : Nat → va_E} {k : Nat} (hk : k < n) : (oh_W n a C)[k]? = some (a k, C k) := by
  unfold oh_W
  rw [List.getElem?_map, List.getElem?_range hk]
  rfl
theorem oh_wg {n : Nat} {a : Nat → Nat} {C : Nat → va_E} {k : Nat} {x : va_E} (hk : k < n) (hs : C k = x) : (oh_W n a C)[k]? = some (a k, x) := by rw [oh_wg0 hk, hs]
theorem oh_wn {n : Nat} {a : Nat → Nat} {C : Nat → va_E} {k : Nat} (hk : n ≤ k) : (oh_W n a C)[k]? = none := List.getElem?_eq_none (by unfold oh_W; rw [List.length_map, List.length_range]; exact hk)
theorem oh_ws {n : Nat} {a : Nat → Nat} {C : Nat → va_E} {k : Nat} {x : va_E} (hk : k < n) : (oh_W n a C).set k (a k, x) = oh_W n a (updc C k x) := by
  apply List.ext_getElem?
  intro i
  have hl : k < (oh_W n a C).length := by unfold oh_W; rw [List.length_map, List.length_range]; exact hk
  by_cases e : k = i
  · subst e
    rw [List.getElem?_set_self hl, oh_wg0 hk, updc_eq]
  · rw [List.getElem?_set_ne e]
    by_cases h : i < n
    · rw [oh_wg0 h, oh_wg0 h, updc_ne (fun q => e q.symm)]
    · rw [oh_wn (Nat.not_lt.mp h), oh_wn (Nat.not_lt.mp h)]
def gv (c : va_E) (j : Nat) : Value := match c with
  | .inr q => q.2.getD j .null
  | .inl _ => .null
def vi (v : Value) : Int32 := match v with
  | .int x => x
  | _ => 0
def vl (v : Value) : Int64 := match v with
  | .long x => x
  | _ => 0
def gi (c : va_E) (j : Nat) : Int32 := vi (gv c j)
def gl (c : va_E) (j : Nat) : Int64 := vl (gv c j)
def ga (c : va_E) : Nat → Int32 := match c with
  | .inl (_, _, .inl f) => f
  | _ => fun _ => 0
def gb (c : va_E) : Nat → Int64 := match c with
  | .inl (_, _, .inr (.inl f)) => f
  | _ => fun _ => 0
/-! intervals -/
def rg (v : Int32) (lo hi : Int) : Prop := lo ≤ v.toInt ∧ v.toInt ≤ hi
theorem rg_c {v : Int32} {lo hi : Int} (h : decide (lo ≤ v.toInt ∧ v.toInt ≤ hi) = true) : rg v lo hi := by
  have h := of_decide_eq_true h
  exact h
theorem rg_any (v : Int32) : rg v (-2147483648) 2147483647 := ⟨by have := Int32.le_toInt v; omega, by have := Int32.toInt_lt v; omega⟩
theorem rg_w {v : Int32} {l u lo hi : Int} (h : rg v l u) (h1 : decide (lo ≤ l ∧ u ≤ hi) = true) : rg v lo hi := by
  have h2 := of_decide_eq_true h1
  exact ⟨Int.le_trans h2.1 h.1, Int.le_trans h.2 h2.2⟩
theorem oh_bmod {x : Int} (h1 : -2147483648 ≤ x) (h2 : x ≤ 2147483647) : x.bmod (2 ^ 32) = x := by
  rw [Int.bmod_def]
  split <;> omega
theorem rg_add {x y : Int32} {l u l2 u2 lo hi : Int} (hx : rg x l u) (hy : rg y l2 u2) (h : decide (-2147483648 ≤ lo ∧ lo ≤ l + l2 ∧ u + u2 ≤ hi ∧ hi ≤ 2147483647) = true) : rg (x + y) lo hi := by
  have h := of_decide_eq_true h
  obtain ⟨a1, a2⟩ := hx
  obtain ⟨b1, b2⟩ := hy
  unfold rg
  rw [Int32.toInt_add, oh_bmod (by omega) (by omega)]
  omega
theorem rg_sub {x y : Int32} {l u l2 u2 lo hi : Int} (hx : rg x l u) (hy : rg y l2 u2) (h : decide (-2147483648 ≤ lo ∧ lo ≤ l - u2 ∧ u - l2 ≤ hi ∧ hi ≤ 2147483647) = true) : rg (x - y) lo hi := by
  have h := of_decide_eq_true h
  obtain ⟨a1, a2⟩ := hx
  obtain ⟨b1, b2⟩ := hy
  unfold rg
  rw [Int32.toInt_sub, oh_bmod (by omega) (by omega)]
  omega
theorem rg_mul {x y : Int32} {l u k lo hi : Int} (hx : rg x l u) (hy : rg y k k) (h : decide (0 ≤ k ∧ -2147483648 ≤ lo ∧ lo ≤ l * k ∧ u * k ≤ hi ∧ hi ≤ 2147483647) = true) : rg (x * y) lo hi := by
  have h := of_decide_eq_true h
  obtain ⟨a1, a2⟩ := hx
  obtain ⟨b1, b2⟩ := hy
  have e : y.toInt = k := by omega
  have m1 : l * k ≤ x.toInt * k := Int.mul_le_mul_of_nonneg_right a1 h.1
  have m2 : x.toInt * k ≤ u * k := Int.mul_le_mul_of_nonneg_right a2 h.1
  unfold rg
  rw [Int32.toInt_mul, e, oh_bmod (by omega) (by omega)]
  omega
theorem rg_neg {x : Int32} {l u lo hi : Int} (hx : rg x l u) (h : decide (-2147483648 ≤ lo ∧ lo ≤ -u ∧ -l ≤ hi ∧ hi ≤ 2147483647) = true) : rg (-x) lo hi := by
  have h := of_decide_eq_true h
  obtain ⟨a1, a2⟩ := hx
  unfold rg
  rw [Int32.toInt_neg, oh_bmod (by omega) (by omega)]
  omega
theorem rg_in {i : Int32} {l u : Int} {N : Nat} (h : rg i l u) (hd : decide (0 ≤ l ∧ u < (N : Int)) = true) : vp_in i N := by
  have h2 := of_decide_eq_true hd
  exact vp_in_iff.mpr ⟨Int.le_trans h2.1 h.1, Int.lt_of_le_of_lt h.2 h2.2⟩
theorem rg_ne0 {y : Int32} {l u : Int} (h : rg y l u) (hd : decide (1 ≤ l ∨ u ≤ -1) = true) : ¬ y = 0 := by
  intro e
  subst e
  have h2 := of_decide_eq_true hd
  obtain ⟨a1, a2⟩ := h
  have : (0 : Int32).toInt = 0 := rfl
  omega
/-- what a comparison tells -/
theorem rn_ltu {x y : Int32} {l u l2 u2 u' : Int} (c : x < y) (hx : rg x l u) (hy : rg y l2 u2) (h : decide (u2 ≤ u' + 1) = true) : rg x l u' := by
  have h := of_decide_eq_true h
  have := Int32.lt_iff_toInt_lt.mp c
  obtain ⟨a1, a2⟩ := hx
  obtain ⟨b1, b2⟩ := hy
  exact ⟨a1, by omega⟩
theorem rn_ltl {x y : Int32} {l u l2 u2 l' : Int} (c : x < y) (hx : rg x l u) (hy : rg y l2 u2) (h : decide (l' ≤ l + 1) = true) : rg y l' u2 := by
  have h := of_decide_eq_true h
  have := Int32.lt_iff_toInt_lt.mp c
  obtain ⟨a1, a2⟩ := hx
  obtain ⟨b1, b2⟩ := hy
  exact ⟨by omega, b2⟩
theorem rn_leu {x y : Int32} {l u l2 u2 : Int} (c : x ≤ y) (hx : rg x l u) (hy : rg y l2 u2) : rg x l u2 := by
  have := Int32.le_iff_toInt_le.mp c
  obtain ⟨a1, a2⟩ := hx
  obtain ⟨b1, b2⟩ := hy
  exact ⟨a1, by omega⟩
theorem rn_lel {x y : Int32} {l u l2 u2 : Int} (c : x ≤ y) (hx : rg x l u) (hy : rg y l2 u2) : rg y l u2 := by
  have := Int32.le_iff_toInt_le.mp c
  obtain ⟨a1, a2⟩ := hx
  obtain ⟨b1, b2⟩ := hy
  exact ⟨by omega, b2⟩
theorem rn_eq {x y : Int32} {l u : Int} (c : x = y) (hy : rg y l u) : rg x l u := by rw [c]; exact hy
theorem rn_neu {x y : Int32} {l u k u' : Int} (c : ¬ x = y) (hx : rg x l u) (hy : rg y k k) (h : decide (u = k ∧ u' = u - 1) = true) : rg x l u' := by
  have h := of_decide_eq_true h
  obtain ⟨a1, a2⟩ := hx
  obtain ⟨b1, b2⟩ := hy
  have : x.toInt ≠ y.toInt := fun e => c (Int32.toInt_inj.mp e)
  exact ⟨a1, by omega⟩
theorem rn_nel {x y : Int32} {l u k l' : Int} (c : ¬ x = y) (hx : rg x l u) (hy : rg y k k) (h : decide (l = k ∧ l' = l + 1) = true) : rg x l' u := by
  have h := of_decide_eq_true h
  obtain ⟨a1, a2⟩ := hx
  obtain ⟨b1, b2⟩ := hy
  have : x.toInt ≠ y.toInt := fun e => c (Int32.toInt_inj.mp e)
  exact ⟨by omega, a2⟩
/-! longs -/
def rgL (v : Int64) (lo hi : Int) : Prop := lo ≤ v.toInt ∧ v.toInt ≤ hi
theorem rgL_c {v : Int64} {lo hi : Int} (h : decide (lo ≤ v.toInt ∧ v.toInt ≤ hi) = true) : rgL v lo hi := by
  have h := of_decide_eq_true h
  exact h
theorem rgL_any (v : Int64) : rgL v (-9223372036854775808) 9223372036854775807 := ⟨by have := Int64.le_toInt v; omega, by have := Int64.toInt_lt v; omega⟩
theorem oh_l32 (x : Int32) : (Int32.toInt64 x).toInt = x.toInt := Int32.toInt_toInt64 x
theorem rgL_i {x : Int32} {l u : Int} (h : rg x l u) : rgL (Int32.toInt64 x) l u := by unfold rgL; rw [oh_l32]; exact h
theorem rg_il {x : Int32} {l u : Int} (h : rgL (Int32.toInt64 x) l u) : rg x l u := by unfold rgL at h; rw [oh_l32] at h; exact h
theorem rg_l2i {v : Int64} {l u : Int} (h : rgL v l u) (hd : decide (-2147483648 ≤ l ∧ u ≤ 2147483647) = true) : rg (Int64.toInt32 v) l u := by
  have h2 := of_decide_eq_true hd
  obtain ⟨a1, a2⟩ := h
  unfold rg
  rw [Int64.toInt_toInt32, oh_bmod (by omega) (by omega)]
  exact ⟨a1, a2⟩
theorem rnL_ltu {x y : Int64} {l u l2 u2 u' : Int} (c : x < y) (hx : rgL x l u) (hy : rgL y l2 u2) (h : decide (u2 ≤ u' + 1) = true) : rgL x l u' := by
  have h := of_decide_eq_true h
  have := Int64.lt_iff_toInt_lt.mp c
  obtain ⟨a1, a2⟩ := hx
  obtain ⟨b1, b2⟩ := hy
  exact ⟨a1, by omega⟩
theorem rnL_leu {x y : Int64} {l u l2 u2 : Int} (c : x ≤ y) (hx : rgL x l u) (hy : rgL y l2 u2) : rgL x l u2 := by
  have := Int64.le_iff_toInt_le.mp c
  obtain ⟨a1, a2⟩ := hx
  obtain ⟨b1, b2⟩ := hy
  exact ⟨a1, by omega⟩
theorem rnL_lel {x y : Int64} {l u l2 u2 : Int} (c : x ≤ y) (hx : rgL x l u) (hy : rgL y l2 u2) : rgL y l u2 := by
  have := Int64.le_iff_toInt_le.mp c
  obtain ⟨a1, a2⟩ := hx
  obtain ⟨b1, b2⟩ := hy
  exact ⟨by omega, b2⟩
/-- lcmp's answer against 0 -/
theorem oh_lc_lt {x y : Int64} (h : lg_cmp x y < 0) : x < y := by
  unfold lg_cmp at h
  split at h
  · exact absurd h (by decide)
  · split at h
    · exact absurd h (by decide)
    · rename_i h1 h2
      exact Int64.lt_iff_toInt_lt.mpr (by have a : ¬ y.toInt < x.toInt := fun q => h1 (Int64.lt_iff_toInt_lt.mpr q); have b : ¬ x.toInt = y.toInt := fun q => h2 (Int64.toInt_inj.mp q); omega)
theorem oh_lc_nlt {x y : Int64} (h : ¬ lg_cmp x y < 0) : y ≤ x := by
  refine Int64.not_lt.mp (fun q => h ?_)
  unfold lg_cmp
  have q' := Int64.lt_iff_toInt_lt.mp q
  rw [if_neg (fun z => by have := Int64.lt_iff_toInt_lt.mp z; omega), if_neg (fun z => by rw [z] at q'; omega)]
  decide
theorem oh_lc_gt {x y : Int64} (h : 0 < lg_cmp x y) : y < x := by
  unfold lg_cmp at h
  split at h
  · rename_i h1
    exact h1
  · split at h
    · exact absurd h (by decide)
    · exact absurd h (by decide)
theorem oh_lc_ngt {x y : Int64} (h : ¬ 0 < lg_cmp x y) : x ≤ y := by
  refine Int64.not_lt.mp (fun q => h ?_)
  unfold lg_cmp
  rw [if_pos q]
  decide
/-! indices -/
theorem oh_nat {i : Int32} {l u : Int} (h : rg i l u) (hl : 0 ≤ l) : (i.toNatClampNeg : Int) = i.toInt := by
  obtain ⟨a1, a2⟩ := h
  show ((i.toInt.toNat : Nat) : Int) = i.toInt
  omega
/-- a place in a row of rows of width W: which column -/
theorem oh_col {b cc w : Int32} {u lc uc : Int} {W : Nat} (hb : rg b 0 u) (hw : w.toInt = (W : Int)) (hc : rg cc lc uc) (hd : decide (0 ≤ lc ∧ uc < (W : Int) ∧ u * W + uc ≤ 2147483647 ∧ 0 ≤ u) = true) : (b * w + cc).toNatClampNeg % W = cc.toNatClampNeg := by
  have h2 := of_decide_eq_true hd
  obtain ⟨b1, b2⟩ := hb
  obtain ⟨c1, c2⟩ := hc
  have hW : (0 : Int) ≤ (W : Int) := Int.natCast_nonneg W
  have m1 : 0 ≤ b.toInt * (W : Int) := Int.mul_nonneg b1 hW
  have m2 : b.toInt * (W : Int) ≤ u * (W : Int) := Int.mul_le_mul_of_nonneg_right b2 hW
  have e1 : (b * w).toInt = b.toInt * (W : Int) := by rw [Int32.toInt_mul, hw, oh_bmod (by omega) (by omega)]
  have e2 : (b * w + cc).toInt = b.toInt * (W : Int) + cc.toInt := by rw [Int32.toInt_add, e1, oh_bmod (by omega) (by omega)]
  have e3 : (b * w + cc).toNatClampNeg = b.toInt.toNat * W + cc.toInt.toNat := by
    show (b * w + cc).toInt.toNat = _
    rw [e2]
    have : ((b.toInt.toNat * W + cc.toInt.toNat : Nat) : Int) = b.toInt * (W : Int) + cc.toInt := by
      rw [Int.natCast_add, Int.natCast_mul, Int.toNat_of_nonneg b1, Int.toNat_of_nonneg (by omega)]
    omega
  rw [e3, Nat.mul_comm, Nat.mul_add_mod]
  exact Nat.mod_eq_of_lt (by show cc.toInt.toNat < W; omega)
/-! types of cells -/
def bdl (L : List (Int × Int)) (c : Nat) : Int := (L.getD c (-2147483648, 2147483647)).1
def bdh (L : List (Int × Int)) (c : Nat) : Int := (L.getD c (-2147483648, 2147483647)).2
def tA (cA : ClassId) (n W : Nat) (L : List (Int × Int)) (c : va_E) : Prop := c = .inl (cA, n, .inl (ga c)) ∧ ∀ j, j < n → rg (ga c j) (bdl L (j % W)) (bdh L (j % W))
def tB (cA : ClassId) (n : Nat) (c : va_E) : Prop := c = .inl (cA, n, .inr (.inl (gb c)))
abbrev qf (a : Nat → Nat) (n b : Nat) : Nat → Option Nat := fun i => if i < n then some (a (b + i)) else none
theorem tA_upd {cA : ClassId} {n W : Nat} {L : List (Int × Int)} {c : va_E} (h : tA cA n W L c) {i : Int32} {v : Int32} (hv : rg v (bdl L (i.toNatClampNeg % W)) (bdh L (i.toNatClampNeg % W))) : tA cA n W L (.inl (cA, n, .inl (upd (ga c) i.toNatClampNeg v))) := by
  refine ⟨rfl, fun j hj => ?_⟩
  show rg (upd (ga c) i.toNatClampNeg v j) _ _
  by_cases e : j = i.toNatClampNeg
  · rw [e, pk_us]
    exact hv
  · rw [pk_un e]
    exact h.2 j hj
theorem tA_cpy {cA : ClassId} {n W : Nat} {L : List (Int × Int)} {c d : va_E} (h : tA cA n W L c) (hd : tA cA n W L d) : tA cA n W L (.inl (cA, n, .inl (va_cpy (ga c) (ga d) 0 0 n))) := by
  refine ⟨rfl, fun j hj => ?_⟩
  show rg (va_cpy (ga c) (ga d) 0 0 n j) _ _
  unfold va_cpy
  rw [if_pos ⟨Nat.zero_le _, by omega⟩]
  have := h.2 j hj
  simpa using this
theorem tA_rd {cA : ClassId} {n W : Nat} {L : List (Int × Int)} {c : va_E} (h : tA cA n W L c) {i : Int32} (hin : vp_in i n) : rg (ga c i.toNatClampNeg) (bdl L (i.toNatClampNeg % W)) (bdh L (i.toNatClampNeg % W)) := h.2 _ (Nat.not_le.mp fun q => hin (Or.inr q))
theorem tA_rdc {cA : ClassId} {n W k : Nat} {L : List (Int × Int)} {c : va_E} (h : tA cA n W L c) {i : Int32} (hin : vp_in i n) (hk : i.toNatClampNeg % W = k) {lo hi : Int} (hd : decide (lo ≤ bdl L k ∧ bdh L k ≤ hi) = true) : rg (ga c i.toNatClampNeg) lo hi := by
  have h1 := tA_rd h hin
  rw [hk] at h1
  exact rg_w h1 hd
theorem tA_stc {W k : Nat} {L : List (Int × Int)} {i v : Int32} {lo hi : Int} (hk : i.toNatClampNeg % W = k) (hv : rg v lo hi) (hd : decide (bdl L k ≤ lo ∧ hi ≤ bdh L k) = true) : rg v (bdl L (i.toNatClampNeg % W)) (bdh L (i.toNatClampNeg % W)) := by
  rw [hk]
  exact rg_w hv hd
/-- a column that nothing is said of -/
theorem tA_sth {W : Nat} {L : List (Int × Int)} {i v c : Int32} {l u : Int} (hk : i.toNatClampNeg % W = c.toNatClampNeg) (hc : rg c l u) (hd : decide (0 ≤ l ∧ (L.length : Int) ≤ l) = true) : rg v (bdl L (i.toNatClampNeg % W)) (bdh L (i.toNatClampNeg % W)) := by
  have h2 := of_decide_eq_true hd
  have h3 := oh_nat hc h2.1
  have h4 : L.length ≤ c.toNatClampNeg := by have := hc.1; omega
  have h5 : L.getD c.toNatClampNeg (-2147483648, 2147483647) = (-2147483648, 2147483647) := by
    rw [List.getD_eq_getElem?_getD, List.getElem?_eq_none h4]
    rfl
  rw [hk]
  unfold bdl bdh
  rw [h5]
  exact rg_any v
/-! what a method leaves as it was: cells outside the ranges mc (but the first cell), and the first cell's fields outside mf -/
def inR (l : List (Nat × Nat)) (k : Nat) : Bool := l.any (fun p => Nat.ble p.1 k && Nat.blt k p.2)
def fr (mc : List (Nat × Nat)) (mf : List Nat) (C u : Nat → va_E) : Prop := (∀ k, inR mc k = false → k ≠ 0 → u k = C k) ∧ ∀ i, i ∉ mf → gv (u 0) i = gv (C 0) i
theorem fr_rf {mc : List (Nat × Nat)} {mf : List Nat} {C : Nat → va_E} : fr mc mf C C := ⟨fun _ _ _ => rfl, fun _ _ => rfl⟩
theorem fr_st {mc : List (Nat × Nat)} {mf : List Nat} {C0 C : Nat → va_E} {k : Nat} {x : va_E} (h : fr mc mf C0 C) (hk : k ≠ 0) (hm : inR mc k = true) : fr mc mf C0 (updc C k x) := by
  refine ⟨fun i hi h0 => ?_, fun i hi => ?_⟩
  · rw [updc_ne (fun e => by rw [e, hm] at hi; cases hi)]
    exact h.1 i hi h0
  · rw [updc_ne (Ne.symm hk)]
    exact h.2 i hi
theorem fr_fd {mc : List (Nat × Nat)} {mf : List Nat} {C0 C : Nat → va_E} {ci j : Nat} {fs : List Value} {v : Value} (h : fr mc mf C0 C) (hs : C 0 = .inr (ci, fs)) (hj : j ∈ mf) : fr mc mf C0 (updc C 0 (.inr (ci, fs.set j v))) := by
  refine ⟨fun i hi h0 => ?_, fun i hi => ?_⟩
  · rw [updc_ne h0]
    exact h.1 i hi h0
  · rw [updc_eq, ← h.2 i hi, hs]
    have hne : j ≠ i := fun e => hi (e ▸ hj)
    show (fs.set j v).getD i .null = fs.getD i .null
    rw [List.getD_eq_getElem?_getD, List.getD_eq_getElem?_getD, List.getElem?_set_ne hne]
theorem inR_of {l : List (Nat × Nat)} {k : Nat} {p : Nat × Nat} (hp : p ∈ l) (h1 : p.1 ≤ k) (h2 : k < p.2) : inR l k = true := by
  unfold inR
  rw [List.any_eq_true]
  refine ⟨p, hp, ?_⟩
  rw [Bool.and_eq_true]
  exact ⟨Nat.ble_eq.mpr h1, by rw [Nat.blt_eq]; exact h2⟩
theorem inR_sub {l1 l2 : List (Nat × Nat)} (h : l1.all (fun p => l2.any (fun q => Nat.ble q.1 p.1 && Nat.ble p.2 q.2)) = true) {k : Nat} (hk : inR l1 k = true) : inR l2 k = true := by
  unfold inR at hk
  rw [List.any_eq_true] at hk
  obtain ⟨p, hp, h1⟩ := hk
  rw [Bool.and_eq_true, Nat.ble_eq, Nat.blt_eq] at h1
  have h2 := List.all_eq_true.mp h p hp
  rw [List.any_eq_true] at h2
  obtain ⟨q, hq, h3⟩ := h2
  rw [Bool.and_eq_true, Nat.ble_eq, Nat.ble_eq] at h3
  exact inR_of hq (Nat.le_trans h3.1 h1.1) (Nat.lt_of_lt_of_le h1.2 h3.2)
theorem fr_tr {mc mc2 : List (Nat × Nat)} {mf mf2 : List Nat} {C0 C u : Nat → va_E} (h : fr mc mf C0 C) (h2 : fr mc2 mf2 C u) (hs : mc2.all (fun p => mc.any (fun q => Nat.ble q.1 p.1 && Nat.ble p.2 q.2)) = true) (hf : mf2.all (fun i => mf.contains i) = true) : fr mc mf C0 u := by
  refine ⟨fun k hk h0 => ?_, fun i hi => ?_⟩
  · have h3 : inR mc2 k = false := by
      cases e : inR mc2 k with
      | false => rfl
      | true => rw [inR_sub hs e] at hk; cases hk
    exact (h2.1 k h3 h0).trans (h.1 k hk h0)
  · have h3 : i ∉ mf2 := fun e => hi (by simpa using List.all_eq_true.mp hf i e)
    exact (h2.2 i h3).trans (h.2 i hi)
theorem th_un {C C2 : Nat → va_E} {k i : Nat} {x : va_E} (e : C2 = updc C k x) (h : i ≠ k) : C2 i = C i := by rw [e]; exact updc_ne h
theorem oh_nb {r : Int32} (h : r = 0 ∨ r = 1) : narrow .boolean (.int r) = .int r := by
  rcases h with h | h <;> subst h <;> rfl
/-! counters -/
theorem mu_up {x : Int32} {l u : Int} (K : Int) (h : rg x l u) (hd : decide (u < K ∧ u < 2147483647 ∧ -2147483648 ≤ l) = true) : (K - (x + 1).toInt).toNat < (K - x.toInt).toNat := by
  have h2 := of_decide_eq_true hd
  obtain ⟨a1, a2⟩ := h
  have e : (x + 1).toInt = x.toInt + 1 := by rw [Int32.toInt_add]; exact oh_bmod (by show _ ≤ x.toInt + 1; omega) (by show x.toInt + 1 ≤ _; omega)
  omega
theorem mu_dn {x : Int32} {l u : Int} (h : rg x l u) (hd : decide (0 ≤ l ∧ u ≤ 2147483647) = true) : ((x + (-1)).toInt + 1).toNat < (x.toInt + 1).toNat := by
  have h2 := of_decide_eq_true hd
  obtain ⟨a1, a2⟩ := h
  have e : (x + (-1)).toInt = x.toInt - 1 := by rw [Int32.toInt_add]; exact oh_bmod (by show _ ≤ x.toInt + (-1); omega) (by show x.toInt + (-1) ≤ _; omega)
  omega
section TH
variable {p : Program} {l : Launch} {e : Env} {R : Room} {s : State} {m : MethodId} {args : Array Value} {below : List Frame} {meth : Method} {c : Code} {H : Heap} {locs : List Loc} {cells slots : Nat} {Q : State → Prop}
variable {cc bytes : ByteArray} {pc nL maxL mc ms n nn index b : Nat} {ls : Array Slot} {st0 rest As : List Value} {D : va_G} {E : Nat → ClassId} {G : Nat → Nat} {A : Nat → Prop} {own CN host : String} {y : MethodName} {ret : Option FieldType} {rm : Room} {a : Nat → Nat} {C : Nat → va_E} {H0 : Heap}
theorem oh_genQ (h : ∀ Q' : State → Prop, Q' = Q → W p l e R s m args below meth c H locs cells slots Q' (F0 m pc ls st0)) : W p l e R s m args below meth c H locs cells slots Q (F0 m pc ls st0) := h Q rfl
theorem th_iald (hexec : p.tables.exec = Jvm.exec) (hb : c.code = cc) (hK : va_K D vwCl (oh_ty E) s) (hP : va_P D vwCl (oh_W n a C) H) (k : Nat) (hk : k < n) {N : Nat} {f : Nat → Int32} (hs : C k = .inl (E 0, N, .inl f)) {i : Int32} (hin : vp_in i N) (hdg : decode cc pc = .ok (.iaload, 1))
    (kk : W p l e R s m args below meth c H locs cells slots Q (F0 m (pc + 1) ls (.int (f i.toNatClampNeg) :: rest))) : W p l e R s m args below meth c H locs cells slots Q (F0 m pc ls (.int i :: .ref (a k) :: rest)) := va_iald hexec hb hK hP k 0 (oh_wg hk hs) rfl hin hdg kk
theorem th_lald (hexec : p.tables.exec = Jvm.exec) (hb : c.code = cc) (hK : va_K D vwCl (oh_ty E) s) (hP : va_P D vwCl (oh_W n a C) H) (k : Nat) (hk : k < n) {N : Nat} {f : Nat → Int64} (hs : C k = .inl (E 1, N, .inr (.inl f))) {i : Int32} (hin : vp_in i N) (hdg : decode cc pc = .ok (.laload, 1))
    (kk : W p l e R s m args below meth c H locs cells slots Q (F0 m (pc + 1) ls (.long (f i.toNatClampNeg) :: rest))) : W p l e R s m args below meth c H locs cells slots Q (F0 m pc ls (.int i :: .ref (a k) :: rest)) := va_lald hexec hb hK hP k 1 (oh_wg hk hs) rfl hin hdg kk
theorem th_aald (hexec : p.tables.exec = Jvm.exec) (hb : c.code = cc) (hK : va_K D vwCl (oh_ty E) s) (hP : va_P D vwCl (oh_W n a C) H) (k t0 : Nat) (hk : k < n) {cA : ClassId} {ty : FieldType} {N bs : Nat} (hs : C k = .inl (cA, N, .inr (.inr (.inr (.inr (qf a N bs)))))) (ht : (oh_ty E)[t0]? = some (cA, .array ty)) {i : Int32} (hin : vp_in i N) (hdg : decode cc pc = .ok (.aaload, 1))
    (kk : W p l e R s m args below meth c H locs cells slots Q (F0 m (pc + 1) ls (.ref (a (bs + i.toNatClampNeg)) :: rest))) : W p l e R s m args below meth c H locs cells slots Q (F0 m pc ls (.int i :: .ref (a k) :: rest)) := oh_aald hexec hb hK hP k t0 (oh_wg hk hs) ht hin (if_pos (Nat.not_le.mp fun q => hin (Or.inr q))) hdg kk
theorem th_iast {T Rl : (Nat → va_E) → Prop} (hexec : p.tables.exec = Jvm.exec) (hb : c.code = cc) (hK : va_K D vwCl (oh_ty E) s) (hP : va_P D vwCl (oh_W n a C) H) (hD : va_D A (oh_W n a C)) (hS : va_S A H0 H locs) (k : Nat) (hk : k < n) {N : Nat} {f : Nat → Int32} (hs : C k = .inl (E 0, N, .inl f)) {i x : Int32} (hin : vp_in i N) (hT : T (updc C k (.inl (E 0, N, .inl (upd f i.toNatClampNeg x))))) (hR : Rl (updc C k (.inl (E 0, N, .inl (upd f i.toNatClampNeg x))))) (hdg : decode cc pc = .ok (.iastore, 1))
    (kk : ∀ (C2 : Nat → va_E) (H1 : Heap) (locs1 : List Loc), C2 = updc C k (.inl (E 0, N, .inl (upd f i.toNatClampNeg x))) → T C2 → Rl C2 → va_P D vwCl (oh_W n a C2) H1 → va_D A (oh_W n a C2) → va_S A H0 H1 locs1 → W p l e R s m args below meth c H1 locs1 cells slots Q (F0 m (pc + 1) ls rest)) : W p l e R s m args below meth c H locs cells slots Q (F0 m pc ls (.int x :: .int i :: .ref (a k) :: rest)) :=
  va_iast hexec hb hK hP hD hS k 0 (oh_wg hk hs) rfl hin hdg (fun H1 locs1 p1 d1 s1 => kk _ H1 locs1 rfl hT hR (by rw [← oh_ws hk]; exact p1) (by rw [← oh_ws hk]; exact d1) s1)
theorem th_last {T Rl : (Nat → va_E) → Prop} (hexec : p.tables.exec = Jvm.exec) (hb : c.code = cc) (hK : va_K D vwCl (oh_ty E) s) (hP : va_P D vwCl (oh_W n a C) H) (hD : va_D A (oh_W n a C)) (hS : va_S A H0 H locs) (k : Nat) (hk : k < n) {N : Nat} {f : Nat → Int64} (hs : C k = .inl (E 1, N, .inr (.inl f))) {i : Int32} {x : Int64} (hin : vp_in i N) (hT : T (updc C k (.inl (E 1, N, .inr (.inl (vp_updL f i.toNatClampNeg x)))))) (hR : Rl (updc C k (.inl (E 1, N, .inr (.inl (vp_updL f i.toNatClampNeg x)))))) (hdg : decode cc pc = .ok (.lastore, 1))
    (kk : ∀ (C2 : Nat → va_E) (H1 : Heap) (locs1 : List Loc), C2 = updc C k (.inl (E 1, N, .inr (.inl (vp_updL f i.toNatClampNeg x)))) → T C2 → Rl C2 → va_P D vwCl (oh_W n a C2) H1 → va_D A (oh_W n a C2) → va_S A H0 H1 locs1 → W p l e R s m args below meth c H1 locs1 cells slots Q (F0 m (pc + 1) ls rest)) : W p l e R s m args below meth c H locs cells slots Q (F0 m pc ls (.long x :: .int i :: .ref (a k) :: rest)) :=
  va_last hexec hb hK hP hD hS k 1 (oh_wg hk hs) rfl hin hdg (fun H1 locs1 p1 d1 s1 => kk _ H1 locs1 rfl hT hR (by rw [← oh_ws hk]; exact p1) (by rw [← oh_ws hk]; exact d1) s1)
theorem th_put {Tp Rl : (Nat → va_E) → Prop} (hexec : p.tables.exec = Jvm.exec) (hb : c.code = cc) {ref CC : String} {T : u_T} {N ci : Nat} {Ts : List Cond} (hts : ∀ w ∈ Ts, w.before args s = true) (hin : ∀ w ∈ u_ws CC T N, w ∈ Ts) (ty0 : Nat → FieldType) (hty : ∀ k, k < N → parseFieldDescriptor (T k).2.2.1 = some (ty0 k)) (hnm : ∀ a, a < N → ∀ b, b < N → a ≠ b → (T a).2.1 ≠ (T b).2.1) (hown : s.vm.findClass own = some m.cls) (hK : va_K D vwCl (oh_ty E) s) (hP : va_P D vwCl (oh_W n a C) H) (hD : va_D A (oh_W n a C)) (hS : va_S A H0 H locs) (k : Nat) (hk : k < n) {fs : List Value} (hs : C k = .inr (ci, fs)) (hc : vwCl[ci]? = some (CC, T, N)) (j : Nat) (hj : j < N) (hlink : (Cond.fieldLink own index ref (T j).2.1 (T j).2.2.1).before args s = true) (hsame : ∀ x, s.fieldFound? (T j).1 (T j).2.1 (T j).2.2.1 = some x → s.fieldFound? ref (T j).2.1 (T j).2.2.1 = some x) (hfin : (T j).2.2.2 = false) {ty : FieldType} {v : Value} (hd : parseFieldDescriptor (T j).2.2.1 = some ty) (hn : narrow ty v = v) (hfit : fits ty v = true) (hl : j < fs.length)
    (hT : Tp (updc C k (.inr (ci, fs.set j v)))) (hR : Rl (updc C k (.inr (ci, fs.set j v)))) (hdg : decode cc pc = .ok (.putfield index, 3)) (kk : ∀ (C2 : Nat → va_E) (H1 : Heap) (locs1 : List Loc), C2 = updc C k (.inr (ci, fs.set j v)) → Tp C2 → Rl C2 → va_P D vwCl (oh_W n a C2) H1 → va_D A (oh_W n a C2) → va_S A H0 H1 locs1 → W p l e R s m args below meth c H1 locs1 cells slots Q (F0 m (pc + 3) ls rest)) : W p l e R s m args below meth c H locs cells slots Q (F0 m pc ls (v :: .ref (a k) :: rest)) :=
  va_put hexec hb hts hin ty0 hty hnm hown hK hP hD hS k (oh_wg hk hs) hc j hj hlink hsame hfin hd hn hfit hl hdg (fun H1 locs1 p1 d1 s1 => kk _ H1 locs1 rfl hT hR (by rw [← oh_ws hk]; exact p1) (by rw [← oh_ws hk]; exact d1) s1)
/-- reading methods: a property of the answer -/
theorem tq_V {post : Int32 → Prop} {ws : va_W} (S : CallFix p m c cc nL s args oh_t own) (hM : Met l y (oh_w y bytes maxL ret) rm (oh_Pp D E G (.ref b :: As) ws) (vp_Si post) 0 0 (fun _ => False)) (cw : CallW R s args own CN index y bytes maxL ret (oh_w y bytes maxL ret) rm 0 0 nn) (hK : va_K D vwCl (oh_ty E) s) (hP : va_P D vwCl ws H) (hG : oh_G G A s) (hS : va_S A s.heap H locs) (hrec : ∃ cell : Cell, H[b]? = some cell ∧ cell.vm.isStatics = false ∧ s.vm.findClass CN = some cell.cls)
    (hn : As.length = nn) (hsize : ls.size = nL) (hst : st0 = As.reverse ++ .ref b :: rest) (hW : (rest.map fun v => v.category).sum ≤ 8) (hdg : decode cc pc = .ok (.invokevirtual index, 3)) (hf : cells ≤ R.cells ∧ slots ≤ R.slots)
    (kk : ∀ r : Int32, post r → W p l e R s m args below meth c H locs cells slots Q (F0 m (pc + 3) ls (.int r :: rest))) : W p l e R s m args below meth c H locs cells slots Q (F0 m pc ls st0) :=
  vp_callSi (va_Run.run (va_runV (As := As) (rest := rest) S hM cw ⟨oh_blp, hrec, oh_pre hK hP hG hS (.ref b :: As)⟩ rfl hn hsize hst (lv_room hW) hdg hf)) kk
theorem tq_Vl {post : Int64 → Prop} {ws : va_W} (S : CallFix p m c cc nL s args oh_t own) (hM : Met l y (oh_w y bytes maxL ret) rm (oh_Pp D E G (.ref b :: As) ws) (vp_Sl post) 0 0 (fun _ => False)) (cw : CallW R s args own CN index y bytes maxL ret (oh_w y bytes maxL ret) rm 0 0 nn) (hK : va_K D vwCl (oh_ty E) s) (hP : va_P D vwCl ws H) (hG : oh_G G A s) (hS : va_S A s.heap H locs) (hrec : ∃ cell : Cell, H[b]? = some cell ∧ cell.vm.isStatics = false ∧ s.vm.findClass CN = some cell.cls)
    (hn : As.length = nn) (hsize : ls.size = nL) (hst : st0 = As.reverse ++ .ref b :: rest) (hW : (rest.map fun v => v.category).sum ≤ 8) (hdg : decode cc pc = .ok (.invokevirtual index, 3)) (hf : cells ≤ R.cells ∧ slots ≤ R.slots)
    (kk : ∀ r : Int64, post r → W p l e R s m args below meth c H locs cells slots Q (F0 m (pc + 3) ls (.long r :: rest))) : W p l e R s m args below meth c H locs cells slots Q (F0 m pc ls st0) :=
  vp_callSl (va_Run.run (va_runV (As := As) (rest := rest) S hM cw ⟨oh_blp, hrec, oh_pre hK hP hG hS (.ref b :: As)⟩ rfl hn hsize hst (lv_room hW) hdg hf)) kk
theorem tq_S {post : Int32 → Prop} {ws : va_W} (S : CallFix p m c cc nL s args oh_t own) (hM : Met l y (oh_w y bytes maxL ret) rm (oh_Pp D E G As ws) (vp_Si post) 0 0 (fun _ => False)) (cw : CallB R s args own index y bytes maxL ret (oh_w y bytes maxL ret) rm 0 0 nn ∧ (Cond.static y).before args s = true) (hK : va_K D vwCl (oh_ty E) s) (hP : va_P D vwCl ws H) (hG : oh_G G A s) (hS : va_S A s.heap H locs)
    (hn : As.length = nn) (hsize : ls.size = nL) (hst : st0 = As.reverse ++ rest) (hW : (rest.map fun v => v.category).sum ≤ 8) (hdg : decode cc pc = .ok (.invokestatic index, 3)) (hf : cells ≤ R.cells ∧ slots ≤ R.slots)
    (kk : ∀ r : Int32, post r → W p l e R s m args below meth c H locs cells slots Q (F0 m (pc + 3) ls (.int r :: rest))) : W p l e R s m args below meth c H locs cells slots Q (F0 m pc ls st0) :=
  vp_callSi (va_Run.run (va_runS (As := As) (rest := rest) S hM cw ⟨oh_blp, oh_pre hK hP hG hS As⟩ rfl hn hsize hst (lv_room hW) hdg hf)) kk
theorem tq_Sl {post : Int64 → Prop} {ws : va_W} (S : CallFix p m c cc nL s args oh_t own) (hM : Met l y (oh_w y bytes maxL ret) rm (oh_Pp D E G As ws) (vp_Sl post) 0 0 (fun _ => False)) (cw : CallB R s args own index y bytes maxL ret (oh_w y bytes maxL ret) rm 0 0 nn ∧ (Cond.static y).before args s = true) (hK : va_K D vwCl (oh_ty E) s) (hP : va_P D vwCl ws H) (hG : oh_G G A s) (hS : va_S A s.heap H locs)
    (hn : As.length = nn) (hsize : ls.size = nL) (hst : st0 = As.reverse ++ rest) (hW : (rest.map fun v => v.category).sum ≤ 8) (hdg : decode cc pc = .ok (.invokestatic index, 3)) (hf : cells ≤ R.cells ∧ slots ≤ R.slots)
    (kk : ∀ r : Int64, post r → W p l e R s m args below meth c H locs cells slots Q (F0 m (pc + 3) ls (.long r :: rest))) : W p l e R s m args below meth c H locs cells slots Q (F0 m pc ls st0) :=
  vp_callSl (va_Run.run (va_runS (As := As) (rest := rest) S hM cw ⟨oh_blp, oh_pre hK hP hG hS As⟩ rfl hn hsize hst (lv_room hW) hdg hf)) kk
theorem tq_SN {post : Int32 → Prop} {ws : va_W} (S : CallFix p m c cc nL s args oh_t own) (hM : Met l y (oh_w y bytes maxL ret) rm (oh_Pp D E G As ws) (vp_Si post) 0 0 (fun _ => False)) (cw : va_CN R s args own index y host bytes maxL ret (oh_w y bytes maxL ret) rm 0 0 nn ∧ (Cond.static y).before args s = true ∧ True) (hK : va_K D vwCl (oh_ty E) s) (hP : va_P D vwCl ws H) (hG : oh_G G A s) (hS : va_S A s.heap H locs)
    (hn : As.length = nn) (hsize : ls.size = nL) (hst : st0 = As.reverse ++ rest) (hW : (rest.map fun v => v.category).sum ≤ 8) (hdg : decode cc pc = .ok (.invokestatic index, 3)) (hf : cells ≤ R.cells ∧ slots ≤ R.slots)
    (kk : ∀ r : Int32, post r → W p l e R s m args below meth c H locs cells slots Q (F0 m (pc + 3) ls (.int r :: rest))) : W p l e R s m args below meth c H locs cells slots Q (F0 m pc ls st0) :=
  vp_callSi (va_Run.run (va_runSN (As := As) (rest := rest) S hM cw ⟨oh_blp, oh_pre hK hP hG hS As⟩ rfl hn hsize hst (lv_room hW) hdg hf)) kk
/-- writing methods over the whole world -/
abbrev tQi (D : va_G) (n : Nat) (a : Nat → Nat) (C : Nat → va_E) (sz : Nat) (post : Int32 → (Nat → va_E) → Prop) := va_Qi post (oh_B D (va_A (oh_W n a C) sz) (fun u => oh_W n a u)) (va_A (oh_W n a C) sz)
abbrev tQv (D : va_G) (n : Nat) (a : Nat → Nat) (C : Nat → va_E) (sz : Nat) (post : (Nat → va_E) → Prop) := va_Qv post (oh_B D (va_A (oh_W n a C) sz) (fun u => oh_W n a u)) (va_A (oh_W n a C) sz)
theorem oh_allp {w : va_W} : (List.range w.length).map (fun i => w[i]?) = w.map some := by
  apply List.ext_getElem?
  intro i
  rw [List.getElem?_map, List.getElem?_map]
  by_cases h : i < w.length
  · rw [List.getElem?_range h, List.getElem?_eq_getElem h]
    simp
  · rw [List.getElem?_eq_none (by rw [List.length_range]; omega), List.getElem?_eq_none (by omega)]
    rfl
theorem oh_free {w : va_W} (hD : va_D A w) (hS : va_S A H0 H locs) (hA : ∀ q, H0.size ≤ q → A q) : ∀ q, va_A w H.size q → A q := va_free hD hS hA _ oh_allp
theorem tm_V {post : Int32 → (Nat → va_E) → Prop} (Sx : CallFix p m c cc nL s args oh_t own) (hM : Met l y (oh_w y bytes maxL ret) rm (oh_Pm D E G (.ref b :: As) (oh_W n a C) H.size) (tQi D n a C H.size post) mc ms (va_A (oh_W n a C) H.size)) (cw : CallW R s args own CN index y bytes maxL ret (oh_w y bytes maxL ret) rm mc ms nn) (hK : va_K D vwCl (oh_ty E) s) (hP : va_P D vwCl (oh_W n a C) H) (hD : va_D A (oh_W n a C)) (hG : oh_G G A s) (hS : va_S A s.heap H locs) (hA : ∀ q, s.heap.size ≤ q → A q) (hrec : ∃ cell : Cell, H[b]? = some cell ∧ cell.vm.isStatics = false ∧ s.vm.findClass CN = some cell.cls)
    (hn : As.length = nn) (hsize : ls.size = nL) (hst : st0 = As.reverse ++ .ref b :: rest) (hW : (rest.map fun v => v.category).sum ≤ 8) (hdg : decode cc pc = .ok (.invokevirtual index, 3)) (hf : cells + mc ≤ R.cells ∧ slots + ms ≤ R.slots)
    (kk : ∀ (r : Int32) (u : Nat → va_E) (H1 : Heap) (locs1 : List Loc), post r u → va_P D vwCl (oh_W n a u) H1 → va_D A (oh_W n a u) → va_S A s.heap H1 locs1 → W p l e R s m args below meth c H1 locs1 (cells + mc) (slots + ms) Q (F0 m (pc + 3) ls (.int r :: rest))) : W p l e R s m args below meth c H locs cells slots Q (F0 m pc ls st0) := by
  have hF := oh_free hD hS hA
  exact va_calli (va_runV (As := As) (rest := rest) Sx hM cw ⟨oh_blm, hrec, oh_prm hK hP hD hG hS hF (.ref b :: As)⟩ rfl hn hsize hst (lv_room hW) hdg hf) hS (fun q _ h => hF q h) hF (fun r u t H1 locs1 ht hvm hw hB hz1 hk1 hS1 => kk r u H1 locs1 hw (by rw [← ht]; exact hB.1) (hB.2.weaken (fun k q _ h => hF _ h)) hS1)
theorem tm_Vv {post : (Nat → va_E) → Prop} (Sx : CallFix p m c cc nL s args oh_t own) (hM : Met l y (oh_w y bytes maxL ret) rm (oh_Pm D E G (.ref b :: As) (oh_W n a C) H.size) (tQv D n a C H.size post) mc ms (va_A (oh_W n a C) H.size)) (cw : CallW R s args own CN index y bytes maxL ret (oh_w y bytes maxL ret) rm mc ms nn) (hK : va_K D vwCl (oh_ty E) s) (hP : va_P D vwCl (oh_W n a C) H) (hD : va_D A (oh_W n a C)) (hG : oh_G G A s) (hS : va_S A s.heap H locs) (hA : ∀ q, s.heap.size ≤ q → A q) (hrec : ∃ cell : Cell, H[b]? = some cell ∧ cell.vm.isStatics = false ∧ s.vm.findClass CN = some cell.cls)
    (hn : As.length = nn) (hsize : ls.size = nL) (hst : st0 = As.reverse ++ .ref b :: rest) (hW : (rest.map fun v => v.category).sum ≤ 8) (hdg : decode cc pc = .ok (.invokevirtual index, 3)) (hf : cells + mc ≤ R.cells ∧ slots + ms ≤ R.slots)
    (kk : ∀ (u : Nat → va_E) (H1 : Heap) (locs1 : List Loc), post u → va_P D vwCl (oh_W n a u) H1 → va_D A (oh_W n a u) → va_S A s.heap H1 locs1 → W p l e R s m args below meth c H1 locs1 (cells + mc) (slots + ms) Q (F0 m (pc + 3) ls rest)) : W p l e R s m args below meth c H locs cells slots Q (F0 m pc ls st0) := by
  have hF := oh_free hD hS hA
  exact va_callv (va_runV (As := As) (rest := rest) Sx hM cw ⟨oh_blm, hrec, oh_prm hK hP hD hG hS hF (.ref b :: As)⟩ rfl hn hsize hst (lv_room hW) hdg hf) hS (fun q _ h => hF q h) hF (fun u t H1 locs1 ht hvm hw hB hz1 hk1 hS1 => kk u H1 locs1 hw (by rw [← ht]; exact hB.1) (hB.2.weaken (fun k q _ h => hF _ h)) hS1)
theorem tm_Sv {post : (Nat → va_E) → Prop} (Sx : CallFix p m c cc nL s args oh_t own) (hM : Met l y (oh_w y bytes maxL ret) rm (oh_Pm D E G As (oh_W n a C) H.size) (tQv D n a C H.size post) mc ms (va_A (oh_W n a C) H.size)) (cw : CallB R s args own index y bytes maxL ret (oh_w y bytes maxL ret) rm mc ms nn ∧ (Cond.static y).before args s = true) (hK : va_K D vwCl (oh_ty E) s) (hP : va_P D vwCl (oh_W n a C) H) (hD : va_D A (oh_W n a C)) (hG : oh_G G A s) (hS : va_S A s.heap H locs) (hA : ∀ q, s.heap.size ≤ q → A q)
    (hn : As.length = nn) (hsize : ls.size = nL) (hst : st0 = As.reverse ++ rest) (hW : (rest.map fun v => v.category).sum ≤ 8) (hdg : decode cc pc = .ok (.invokestatic index, 3)) (hf : cells + mc ≤ R.cells ∧ slots + ms ≤ R.slots)
    (kk : ∀ (u : Nat → va_E) (H1 : Heap) (locs1 : List Loc), post u → va_P D vwCl (oh_W n a u) H1 → va_D A (oh_W n a u) → va_S A s.heap H1 locs1 → W p l e R s m args below meth c H1 locs1 (cells + mc) (slots + ms) Q (F0 m (pc + 3) ls rest)) : W p l e R s m args below meth c H locs cells slots Q (F0 m pc ls st0) := by
  have hF := oh_free hD hS hA
  exact va_callv (va_runS (As := As) (rest := rest) Sx hM cw ⟨oh_blm, oh_prm hK hP hD hG hS hF As⟩ rfl hn hsize hst (lv_room hW) hdg hf) hS (fun q _ h => hF q h) hF (fun u t H1 locs1 ht hvm hw hB hz1 hk1 hS1 => kk u H1 locs1 hw (by rw [← ht]; exact hB.1) (hB.2.weaken (fun k q _ h => hF _ h)) hS1)
end TH
end
/-! the types of the cells: X the class, M the reference -/
def tyX (a : Nat → Nat) (E : Nat → ClassId) (k : Nat) (c : va_E) : Prop := match k with
  | 0 => c = .inr (6, [.ref (a 1), .ref (a 2), .int (gi c 2), .ref (a 3), .ref (a 4), .ref (a 5), .ref (a 6), .ref (a 7), .ref (a 8)]) ∧ rg (gi c 2) 0 1
  | 1 => c = .inr (0, [.ref (a 10), .ref (a 11), .ref (a 12), .ref (a 13), .ref (a 14), .ref (a 15), .ref (a 16), .int (gi c 7)]) ∧ rg (gi c 7) 0 1
  | 2 => c = .inr (0, [.ref (a 17), .ref (a 18), .ref (a 19), .ref (a 20), .ref (a 21), .ref (a 22), .ref (a 23), .int (gi c 7)]) ∧ rg (gi c 7) 0 1
  | 3 => c = .inr (5, [.ref (a 1), .ref (a 9), .ref (a 24), .ref (a 25), .ref (a 26), .ref (a 27), .ref (a 28)])
  | 4 => c = .inr (3, [.ref (a 29), .ref (a 30), .ref (a 31)])
  | 5 => c = .inr (4, [.ref (a 32), .int (gi c 1), .int (gi c 2), .int (gi c 3), .int (gi c 4), .int (gi c 5)]) ∧ rg (gi c 1) 0 250 ∧ rg (gi c 2) (-1) 250 ∧ rg (gi c 4) 0 250 ∧ rg (gi c 5) 0 250
  | 6 => c = .inr (2, [.ref (a 5), .ref (a 1), .ref (a 33), .ref (a 34)])
  | 7 => tA (E 0) 5 5 [] c
  | 8 => tA (E 0) 3 3 [] c
  | 9 => c = .inr (1, [.int (gi c 0), .int (gi c 1), .int (gi c 2), .int (gi c 3), .int (gi c 4)])
  | 10 => tA (E 0) 4 4 [(0, 24), (0, 16), (0, 5), (0, 5)] c
  | 11 => tA (E 0) 168 7 [(0, 15), (0, 15)] c
  | 12 => tA (E 0) 160 10 [(0, 23), (0, 5)] c
  | 13 => tA (E 0) 15 3 [] c
  | 14 => tA (E 0) 10 2 [] c
  | 15 => tA (E 0) 3 3 [] c
  | 16 => tA (E 0) 7 7 [(0, 15), (0, 15), (-2147483648, 2147483647), (-2147483648, 2147483647), (-2147483648, 2147483647), (0, 4)] c
  | 17 => tA (E 0) 4 4 [(0, 24), (0, 16), (0, 5), (0, 5)] c
  | 18 => tA (E 0) 168 7 [(0, 15), (0, 15)] c
  | 19 => tA (E 0) 160 10 [(0, 23), (0, 5)] c
  | 20 => tA (E 0) 15 3 [] c
  | 21 => tA (E 0) 10 2 [] c
  | 22 => tA (E 0) 3 3 [] c
  | 23 => tA (E 0) 7 7 [(0, 15), (0, 15), (-2147483648, 2147483647), (-2147483648, 2147483647), (-2147483648, 2147483647), (0, 4)] c
  | 24 => tA (E 0) 24 1 [] c
  | 25 => tA (E 0) 24 1 [] c
  | 26 => tA (E 0) 24 1 [] c
  | 27 => tA (E 0) 16 1 [] c
  | 28 => tA (E 0) 4 4 [(-2147483648, 2147483647), (-2147483648, 2147483647), (-2147483648, 2147483647), (0, 15)] c
  | 29 => tA (E 0) 8 1 [] c
  | 30 => tA (E 0) 8 1 [(0, 40)] c
  | 31 => tB (E 1) 320 c
  | 32 => tA (E 0) 250 1 [] c
  | 33 => tA (E 0) 4 4 [(0, 24), (0, 16), (0, 5), (0, 5)] c
  | 34 => tA (E 0) 3 3 [] c
  | _ => True
def tyM (a : Nat → Nat) (E : Nat → ClassId) (k : Nat) (c : va_E) : Prop := match k with
  | 0 => c = .inr (7, [.ref (a 1), .ref (a 2), .ref (a 3), .ref (a 4), .ref (a 5), .ref (a 6), .ref (a 7), .int (gi c 7), .ref (a 8), .int (gi c 9), .ref (a 9), .int (gi c 11), .ref (a 10), .int (gi c 13), .ref (a 11), .int (gi c 15), .ref (a 12), .ref (a 13), .ref (a 14), .int (gi c 19), gv c 20, .int (gi c 21), .int (gi c 22), .int (gi c 23), .long (gl c 24), .int (gi c 25), .int (gi c 26), .ref (a 15), .int (gi c 28)]) ∧ rg (gi c 7) 0 250 ∧ rg (gi c 9) 0 24 ∧ rg (gi c 11) 0 16 ∧ rg (gi c 13) 0 5 ∧ rg (gi c 15) 0 5 ∧ rg (gi c 21) 0 250 ∧ rg (gi c 23) 0 250
  | 1 => tA (E 0) 8 1 [(0, 2)] c
  | 2 => tA (E 0) 8 1 [] c
  | 3 => tA (E 0) 8 1 [(0, 40)] c
  | 4 => c = .inl (E 3, 8, .inr (.inr (.inr (.inr (qf a 8 16)))))
  | 5 => tB (E 1) 40 c
  | 6 => tA (E 0) 8 1 [(-1, 15)] c
  | 7 => tA (E 0) 250 1 [] c
  | 8 => tA (E 0) 8 1 [] c
  | 9 => c = .inl (E 2, 24, .inr (.inr (.inr (.inr (qf a 24 24)))))
  | 10 => c = .inl (E 2, 16, .inr (.inr (.inr (.inr (qf a 16 48)))))
  | 11 => c = .inl (E 2, 5, .inr (.inr (.inr (.inr (qf a 5 64)))))
  | 12 => c = .inl (E 2, 5, .inr (.inr (.inr (.inr (qf a 5 69)))))
  | 13 => tA (E 0) 3 3 [] c
  | 14 => tA (E 0) 7 7 [(-2147483648, 2147483647), (0, 4), (-2147483648, 2147483647), (0, 15), (0, 15)] c
  | 15 => tB (E 1) 16 c
  | _ => True
def TyX (a : Nat → Nat) (E : Nat → ClassId) (C : Nat → va_E) : Prop := ∀ k, k < 35 → tyX a E k (C k)
def TyM (a : Nat → Nat) (E : Nat → ClassId) (C : Nat → va_E) : Prop := (∀ k, k < 16 → tyM a E k (C k)) ∧ (∀ i, i < 8 → tB (E 1) 40 (C (16 + i))) ∧ (∀ i, i < 24 → tA (E 0) 7 7 [(0, 15), (0, 15)] (C (24 + i))) ∧ (∀ i, i < 16 → tA (E 0) 10 10 [] (C (48 + i))) ∧ (∀ i, i < 5 → tA (E 0) 3 3 [(0, 12), (0, 9)] (C (64 + i))) ∧ (∀ i, i < 5 → tA (E 0) 2 2 [] (C (69 + i)))
theorem TyX.up {a : Nat → Nat} {E : Nat → ClassId} {C : Nat → va_E} (h : TyX a E C) (k : Nat) {x : va_E} (ht : tyX a E k x) : TyX a E (updc C k x) := by
  intro i hi
  by_cases e : i = k
  · subst e
    rw [updc_eq]
    exact ht
  · rw [updc_ne e]
    exact h i hi
theorem TyM.up {a : Nat → Nat} {E : Nat → ClassId} {C : Nat → va_E} (h : TyM a E C) (k : Nat) (hk : k < 16) {x : va_E} (ht : tyM a E k x) : TyM a E (updc C k x) := by
  refine ⟨fun i hi => ?_, fun i hi => by rw [updc_ne (by omega)]; exact h.2.1 i hi, fun i hi => by rw [updc_ne (by omega)]; exact h.2.2.1 i hi, fun i hi => by rw [updc_ne (by omega)]; exact h.2.2.2.1 i hi, fun i hi => by rw [updc_ne (by omega)]; exact h.2.2.2.2.1 i hi, fun i hi => by rw [updc_ne (by omega)]; exact h.2.2.2.2.2 i hi⟩
  · by_cases e : i = k
    · subst e
      rw [updc_eq]
      exact ht
    · rw [updc_ne e]
      exact h.1 i hi
theorem TyM.brows {a : Nat → Nat} {E : Nat → ClassId} {C : Nat → va_E} (h : TyM a E C) {i : Nat} (hi : i < 8) : tB (E 1) 40 (C (16 + i)) := h.2.1 i hi
theorem TyM.uprows {a : Nat → Nat} {E : Nat → ClassId} {C : Nat → va_E} (h : TyM a E C) {i : Nat} (hi : i < 8) {x : va_E} (ht : tB (E 1) 40 x) : TyM a E (updc C (16 + i) x) := by
  refine ⟨fun k hk => by rw [updc_ne (by omega)]; exact h.1 k hk, fun k hk => by
    by_cases e : k = i
    · subst e
      rw [updc_eq]
      exact ht
    · rw [updc_ne (by omega)]
      exact h.2.1 k hk, fun k hk => by rw [updc_ne (by omega)]; exact h.2.2.1 k hk, fun k hk => by rw [updc_ne (by omega)]; exact h.2.2.2.1 k hk, fun k hk => by rw [updc_ne (by omega)]; exact h.2.2.2.2.1 k hk, fun k hk => by rw [updc_ne (by omega)]; exact h.2.2.2.2.2 k hk⟩
theorem TyM.broad {a : Nat → Nat} {E : Nat → ClassId} {C : Nat → va_E} (h : TyM a E C) {i : Nat} (hi : i < 24) : tA (E 0) 7 7 [(0, 15), (0, 15)] (C (24 + i)) := h.2.2.1 i hi
theorem TyM.uproad {a : Nat → Nat} {E : Nat → ClassId} {C : Nat → va_E} (h : TyM a E C) {i : Nat} (hi : i < 24) {x : va_E} (ht : tA (E 0) 7 7 [(0, 15), (0, 15)] x) : TyM a E (updc C (24 + i) x) := by
  refine ⟨fun k hk => by rw [updc_ne (by omega)]; exact h.1 k hk, fun k hk => by rw [updc_ne (by omega)]; exact h.2.1 k hk, fun k hk => by
    by_cases e : k = i
    · subst e
      rw [updc_eq]
      exact ht
    · rw [updc_ne (by omega)]
      exact h.2.2.1 k hk, fun k hk => by rw [updc_ne (by omega)]; exact h.2.2.2.1 k hk, fun k hk => by rw [updc_ne (by omega)]; exact h.2.2.2.2.1 k hk, fun k hk => by rw [updc_ne (by omega)]; exact h.2.2.2.2.2 k hk⟩
theorem TyM.bbridge {a : Nat → Nat} {E : Nat → ClassId} {C : Nat → va_E} (h : TyM a E C) {i : Nat} (hi : i < 16) : tA (E 0) 10 10 [] (C (48 + i)) := h.2.2.2.1 i hi
theorem TyM.upbridge {a : Nat → Nat} {E : Nat → ClassId} {C : Nat → va_E} (h : TyM a E C) {i : Nat} (hi : i < 16) {x : va_E} (ht : tA (E 0) 10 10 [] x) : TyM a E (updc C (48 + i) x) := by
  refine ⟨fun k hk => by rw [updc_ne (by omega)]; exact h.1 k hk, fun k hk => by rw [updc_ne (by omega)]; exact h.2.1 k hk, fun k hk => by rw [updc_ne (by omega)]; exact h.2.2.1 k hk, fun k hk => by
    by_cases e : k = i
    · subst e
      rw [updc_eq]
      exact ht
    · rw [updc_ne (by omega)]
      exact h.2.2.2.1 k hk, fun k hk => by rw [updc_ne (by omega)]; exact h.2.2.2.2.1 k hk, fun k hk => by rw [updc_ne (by omega)]; exact h.2.2.2.2.2 k hk⟩
theorem TyM.bwaggon {a : Nat → Nat} {E : Nat → ClassId} {C : Nat → va_E} (h : TyM a E C) {i : Nat} (hi : i < 5) : tA (E 0) 3 3 [(0, 12), (0, 9)] (C (64 + i)) := h.2.2.2.2.1 i hi
theorem TyM.upwaggon {a : Nat → Nat} {E : Nat → ClassId} {C : Nat → va_E} (h : TyM a E C) {i : Nat} (hi : i < 5) {x : va_E} (ht : tA (E 0) 3 3 [(0, 12), (0, 9)] x) : TyM a E (updc C (64 + i) x) := by
  refine ⟨fun k hk => by rw [updc_ne (by omega)]; exact h.1 k hk, fun k hk => by rw [updc_ne (by omega)]; exact h.2.1 k hk, fun k hk => by rw [updc_ne (by omega)]; exact h.2.2.1 k hk, fun k hk => by rw [updc_ne (by omega)]; exact h.2.2.2.1 k hk, fun k hk => by
    by_cases e : k = i
    · subst e
      rw [updc_eq]
      exact ht
    · rw [updc_ne (by omega)]
      exact h.2.2.2.2.1 k hk, fun k hk => by rw [updc_ne (by omega)]; exact h.2.2.2.2.2 k hk⟩
theorem TyM.bpart {a : Nat → Nat} {E : Nat → ClassId} {C : Nat → va_E} (h : TyM a E C) {i : Nat} (hi : i < 5) : tA (E 0) 2 2 [] (C (69 + i)) := h.2.2.2.2.2 i hi
theorem TyM.uppart {a : Nat → Nat} {E : Nat → ClassId} {C : Nat → va_E} (h : TyM a E C) {i : Nat} (hi : i < 5) {x : va_E} (ht : tA (E 0) 2 2 [] x) : TyM a E (updc C (69 + i) x) := by
  refine ⟨fun k hk => by rw [updc_ne (by omega)]; exact h.1 k hk, fun k hk => by rw [updc_ne (by omega)]; exact h.2.1 k hk, fun k hk => by rw [updc_ne (by omega)]; exact h.2.2.1 k hk, fun k hk => by rw [updc_ne (by omega)]; exact h.2.2.2.1 k hk, fun k hk => by rw [updc_ne (by omega)]; exact h.2.2.2.2.1 k hk, fun k hk => by
    by_cases e : k = i
    · subst e
      rw [updc_eq]
      exact ht
    · rw [updc_ne (by omega)]
      exact h.2.2.2.2.2 k hk⟩
theorem sX_0 {a : Nat → Nat} {E : Nat → ClassId} {C : Nat → va_E} (h : TyX a E C) : C 0 = .inr (6, [.ref (a 1), .ref (a 2), .int (gi (C 0) 2), .ref (a 3), .ref (a 4), .ref (a 5), .ref (a 6), .ref (a 7), .ref (a 8)]) := (h 0 (by decide)).1
theorem sX_1 {a : Nat → Nat} {E : Nat → ClassId} {C : Nat → va_E} (h : TyX a E C) : C 1 = .inr (0, [.ref (a 10), .ref (a 11), .ref (a 12), .ref (a 13), .ref (a 14), .ref (a 15), .ref (a 16), .int (gi (C 1) 7)]) := (h 1 (by decide)).1
theorem fX_1_7 {a : Nat → Nat} {E : Nat → ClassId} {C : Nat → va_E} (h : TyX a E C) : rg (gi (C 1) 7) 0 1 := (h 1 (by decide)).2
theorem sX_2 {a : Nat → Nat} {E : Nat → ClassId} {C : Nat → va_E} (h : TyX a E C) : C 2 = .inr (0, [.ref (a 17), .ref (a 18), .ref (a 19), .ref (a 20), .ref (a 21), .ref (a 22), .ref (a 23), .int (gi (C 2) 7)]) := (h 2 (by decide)).1
theorem fX_2_7 {a : Nat → Nat} {E : Nat → ClassId} {C : Nat → va_E} (h : TyX a E C) : rg (gi (C 2) 7) 0 1 := (h 2 (by decide)).2
theorem sX_3 {a : Nat → Nat} {E : Nat → ClassId} {C : Nat → va_E} (h : TyX a E C) : C 3 = .inr (5, [.ref (a 1), .ref (a 9), .ref (a 24), .ref (a 25), .ref (a 26), .ref (a 27), .ref (a 28)]) := (h 3 (by decide))
theorem sX_4 {a : Nat → Nat} {E : Nat → ClassId} {C : Nat → va_E} (h : TyX a E C) : C 4 = .inr (3, [.ref (a 29), .ref (a 30), .ref (a 31)]) := (h 4 (by decide))
theorem sX_5 {a : Nat → Nat} {E : Nat → ClassId} {C : Nat → va_E} (h : TyX a E C) : C 5 = .inr (4, [.ref (a 32), .int (gi (C 5) 1), .int (gi (C 5) 2), .int (gi (C 5) 3), .int (gi (C 5) 4), .int (gi (C 5) 5)]) := (h 5 (by decide)).1
theorem fX_5_1 {a : Nat → Nat} {E : Nat → ClassId} {C : Nat → va_E} (h : TyX a E C) : rg (gi (C 5) 1) 0 250 := (h 5 (by decide)).2.1
theorem fX_5_2 {a : Nat → Nat} {E : Nat → ClassId} {C : Nat → va_E} (h : TyX a E C) : rg (gi (C 5) 2) (-1) 250 := (h 5 (by decide)).2.2.1
theorem fX_5_4 {a : Nat → Nat} {E : Nat → ClassId} {C : Nat → va_E} (h : TyX a E C) : rg (gi (C 5) 4) 0 250 := (h 5 (by decide)).2.2.2.1
theorem fX_5_5 {a : Nat → Nat} {E : Nat → ClassId} {C : Nat → va_E} (h : TyX a E C) : rg (gi (C 5) 5) 0 250 := (h 5 (by decide)).2.2.2.2
theorem sX_6 {a : Nat → Nat} {E : Nat → ClassId} {C : Nat → va_E} (h : TyX a E C) : C 6 = .inr (2, [.ref (a 5), .ref (a 1), .ref (a 33), .ref (a 34)]) := (h 6 (by decide))
theorem tX_7 {a : Nat → Nat} {E : Nat → ClassId} {C : Nat → va_E} (h : TyX a E C) : tA (E 0) 5 5 [] (C 7) := h 7 (by decide)
theorem sX_7 {a : Nat → Nat} {E : Nat → ClassId} {C : Nat → va_E} (h : TyX a E C) : C 7 = .inl (E 0, 5, .inl (ga (C 7))) := (tX_7 h).1
theorem tX_8 {a : Nat → Nat} {E : Nat → ClassId} {C : Nat → va_E} (h : TyX a E C) : tA (E 0) 3 3 [] (C 8) := h 8 (by decide)
theorem sX_8 {a : Nat → Nat} {E : Nat → ClassId} {C : Nat → va_E} (h : TyX a E C) : C 8 = .inl (E 0, 3, .inl (ga (C 8))) := (tX_8 h).1
theorem sX_9 {a : Nat → Nat} {E : Nat → ClassId} {C : Nat → va_E} (h : TyX a E C) : C 9 = .inr (1, [.int (gi (C 9) 0), .int (gi (C 9) 1), .int (gi (C 9) 2), .int (gi (C 9) 3), .int (gi (C 9) 4)]) := (h 9 (by decide))
theorem tX_10 {a : Nat → Nat} {E : Nat → ClassId} {C : Nat → va_E} (h : TyX a E C) : tA (E 0) 4 4 [(0, 24), (0, 16), (0, 5), (0, 5)] (C 10) := h 10 (by decide)
theorem sX_10 {a : Nat → Nat} {E : Nat → ClassId} {C : Nat → va_E} (h : TyX a E C) : C 10 = .inl (E 0, 4, .inl (ga (C 10))) := (tX_10 h).1
theorem tX_11 {a : Nat → Nat} {E : Nat → ClassId} {C : Nat → va_E} (h : TyX a E C) : tA (E 0) 168 7 [(0, 15), (0, 15)] (C 11) := h 11 (by decide)
theorem sX_11 {a : Nat → Nat} {E : Nat → ClassId} {C : Nat → va_E} (h : TyX a E C) : C 11 = .inl (E 0, 168, .inl (ga (C 11))) := (tX_11 h).1
theorem tX_12 {a : Nat → Nat} {E : Nat → ClassId} {C : Nat → va_E} (h : TyX a E C) : tA (E 0) 160 10 [(0, 23), (0, 5)] (C 12) := h 12 (by decide)
theorem sX_12 {a : Nat → Nat} {E : Nat → ClassId} {C : Nat → va_E} (h : TyX a E C) : C 12 = .inl (E 0, 160, .inl (ga (C 12))) := (tX_12 h).1
theorem tX_13 {a : Nat → Nat} {E : Nat → ClassId} {C : Nat → va_E} (h : TyX a E C) : tA (E 0) 15 3 [] (C 13) := h 13 (by decide)
theorem sX_13 {a : Nat → Nat} {E : Nat → ClassId} {C : Nat → va_E} (h : TyX a E C) : C 13 = .inl (E 0, 15, .inl (ga (C 13))) := (tX_13 h).1
theorem tX_14 {a : Nat → Nat} {E : Nat → ClassId} {C : Nat → va_E} (h : TyX a E C) : tA (E 0) 10 2 [] (C 14) := h 14 (by decide)
theorem sX_14 {a : Nat → Nat} {E : Nat → ClassId} {C : Nat → va_E} (h : TyX a E C) : C 14 = .inl (E 0, 10, .inl (ga (C 14))) := (tX_14 h).1
theorem tX_15 {a : Nat → Nat} {E : Nat → ClassId} {C : Nat → va_E} (h : TyX a E C) : tA (E 0) 3 3 [] (C 15) := h 15 (by decide)
theorem sX_15 {a : Nat → Nat} {E : Nat → ClassId} {C : Nat → va_E} (h : TyX a E C) : C 15 = .inl (E 0, 3, .inl (ga (C 15))) := (tX_15 h).1
theorem tX_16 {a : Nat → Nat} {E : Nat → ClassId} {C : Nat → va_E} (h : TyX a E C) : tA (E 0) 7 7 [(0, 15), (0, 15), (-2147483648, 2147483647), (-2147483648, 2147483647), (-2147483648, 2147483647), (0, 4)] (C 16) := h 16 (by decide)
theorem sX_16 {a : Nat → Nat} {E : Nat → ClassId} {C : Nat → va_E} (h : TyX a E C) : C 16 = .inl (E 0, 7, .inl (ga (C 16))) := (tX_16 h).1
theorem tX_17 {a : Nat → Nat} {E : Nat → ClassId} {C : Nat → va_E} (h : TyX a E C) : tA (E 0) 4 4 [(0, 24), (0, 16), (0, 5), (0, 5)] (C 17) := h 17 (by decide)
theorem sX_17 {a : Nat → Nat} {E : Nat → ClassId} {C : Nat → va_E} (h : TyX a E C) : C 17 = .inl (E 0, 4, .inl (ga (C 17))) := (tX_17 h).1
theorem tX_18 {a : Nat → Nat} {E : Nat → ClassId} {C : Nat → va_E} (h : TyX a E C) : tA (E 0) 168 7 [(0, 15), (0, 15)] (C 18) := h 18 (by decide)
theorem sX_18 {a : Nat → Nat} {E : Nat → ClassId} {C : Nat → va_E} (h : TyX a E C) : C 18 = .inl (E 0, 168, .inl (ga (C 18))) := (tX_18 h).1
theorem tX_19 {a : Nat → Nat} {E : Nat → ClassId} {C : Nat → va_E} (h : TyX a E C) : tA (E 0) 160 10 [(0, 23), (0, 5)] (C 19) := h 19 (by decide)
theorem sX_19 {a : Nat → Nat} {E : Nat → ClassId} {C : Nat → va_E} (h : TyX a E C) : C 19 = .inl (E 0, 160, .inl (ga (C 19))) := (tX_19 h).1
theorem tX_20 {a : Nat → Nat} {E : Nat → ClassId} {C : Nat → va_E} (h : TyX a E C) : tA (E 0) 15 3 [] (C 20) := h 20 (by decide)
theorem sX_20 {a : Nat → Nat} {E : Nat → ClassId} {C : Nat → va_E} (h : TyX a E C) : C 20 = .inl (E 0, 15, .inl (ga (C 20))) := (tX_20 h).1
theorem tX_21 {a : Nat → Nat} {E : Nat → ClassId} {C : Nat → va_E} (h : TyX a E C) : tA (E 0) 10 2 [] (C 21) := h 21 (by decide)
theorem sX_21 {a : Nat → Nat} {E : Nat → ClassId} {C : Nat → va_E} (h : TyX a E C) : C 21 = .inl (E 0, 10, .inl (ga (C 21))) := (tX_21 h).1
theorem tX_22 {a : Nat → Nat} {E : Nat → ClassId} {C : Nat → va_E} (h : TyX a E C) : tA (E 0) 3 3 [] (C 22) := h 22 (by decide)
theorem sX_22 {a : Nat → Nat} {E : Nat → ClassId} {C : Nat → va_E} (h : TyX a E C) : C 22 = .inl (E 0, 3, .inl (ga (C 22))) := (tX_22 h).1
theorem tX_23 {a : Nat → Nat} {E : Nat → ClassId} {C : Nat → va_E} (h : TyX a E C) : tA (E 0) 7 7 [(0, 15), (0, 15), (-2147483648, 2147483647), (-2147483648, 2147483647), (-2147483648, 2147483647), (0, 4)] (C 23) := h 23 (by decide)
theorem sX_23 {a : Nat → Nat} {E : Nat → ClassId} {C : Nat → va_E} (h : TyX a E C) : C 23 = .inl (E 0, 7, .inl (ga (C 23))) := (tX_23 h).1
theorem tX_24 {a : Nat → Nat} {E : Nat → ClassId} {C : Nat → va_E} (h : TyX a E C) : tA (E 0) 24 1 [] (C 24) := h 24 (by decide)
theorem sX_24 {a : Nat → Nat} {E : Nat → ClassId} {C : Nat → va_E} (h : TyX a E C) : C 24 = .inl (E 0, 24, .inl (ga (C 24))) := (tX_24 h).1
theorem tX_25 {a : Nat → Nat} {E : Nat → ClassId} {C : Nat → va_E} (h : TyX a E C) : tA (E 0) 24 1 [] (C 25) := h 25 (by decide)
theorem sX_25 {a : Nat → Nat} {E : Nat → ClassId} {C : Nat → va_E} (h : TyX a E C) : C 25 = .inl (E 0, 24, .inl (ga (C 25))) := (tX_25 h).1
theorem tX_26 {a : Nat → Nat} {E : Nat → ClassId} {C : Nat → va_E} (h : TyX a E C) : tA (E 0) 24 1 [] (C 26) := h 26 (by decide)
theorem sX_26 {a : Nat → Nat} {E : Nat → ClassId} {C : Nat → va_E} (h : TyX a E C) : C 26 = .inl (E 0, 24, .inl (ga (C 26))) := (tX_26 h).1
theorem tX_27 {a : Nat → Nat} {E : Nat → ClassId} {C : Nat → va_E} (h : TyX a E C) : tA (E 0) 16 1 [] (C 27) := h 27 (by decide)
theorem sX_27 {a : Nat → Nat} {E : Nat → ClassId} {C : Nat → va_E} (h : TyX a E C) : C 27 = .inl (E 0, 16, .inl (ga (C 27))) := (tX_27 h).1
theorem tX_28 {a : Nat → Nat} {E : Nat → ClassId} {C : Nat → va_E} (h : TyX a E C) : tA (E 0) 4 4 [(-2147483648, 2147483647), (-2147483648, 2147483647), (-2147483648, 2147483647), (0, 15)] (C 28) := h 28 (by decide)
theorem sX_28 {a : Nat → Nat} {E : Nat → ClassId} {C : Nat → va_E} (h : TyX a E C) : C 28 = .inl (E 0, 4, .inl (ga (C 28))) := (tX_28 h).1
theorem tX_29 {a : Nat → Nat} {E : Nat → ClassId} {C : Nat → va_E} (h : TyX a E C) : tA (E 0) 8 1 [] (C 29) := h 29 (by decide)
theorem sX_29 {a : Nat → Nat} {E : Nat → ClassId} {C : Nat → va_E} (h : TyX a E C) : C 29 = .inl (E 0, 8, .inl (ga (C 29))) := (tX_29 h).1
theorem tX_30 {a : Nat → Nat} {E : Nat → ClassId} {C : Nat → va_E} (h : TyX a E C) : tA (E 0) 8 1 [(0, 40)] (C 30) := h 30 (by decide)
theorem sX_30 {a : Nat → Nat} {E : Nat → ClassId} {C : Nat → va_E} (h : TyX a E C) : C 30 = .inl (E 0, 8, .inl (ga (C 30))) := (tX_30 h).1
theorem sX_31 {a : Nat → Nat} {E : Nat → ClassId} {C : Nat → va_E} (h : TyX a E C) : C 31 = .inl (E 1, 320, .inr (.inl (gb (C 31)))) := h 31 (by decide)
theorem tX_32 {a : Nat → Nat} {E : Nat → ClassId} {C : Nat → va_E} (h : TyX a E C) : tA (E 0) 250 1 [] (C 32) := h 32 (by decide)
theorem sX_32 {a : Nat → Nat} {E : Nat → ClassId} {C : Nat → va_E} (h : TyX a E C) : C 32 = .inl (E 0, 250, .inl (ga (C 32))) := (tX_32 h).1
theorem tX_33 {a : Nat → Nat} {E : Nat → ClassId} {C : Nat → va_E} (h : TyX a E C) : tA (E 0) 4 4 [(0, 24), (0, 16), (0, 5), (0, 5)] (C 33) := h 33 (by decide)
theorem sX_33 {a : Nat → Nat} {E : Nat → ClassId} {C : Nat → va_E} (h : TyX a E C) : C 33 = .inl (E 0, 4, .inl (ga (C 33))) := (tX_33 h).1
theorem tX_34 {a : Nat → Nat} {E : Nat → ClassId} {C : Nat → va_E} (h : TyX a E C) : tA (E 0) 3 3 [] (C 34) := h 34 (by decide)
theorem sX_34 {a : Nat → Nat} {E : Nat → ClassId} {C : Nat → va_E} (h : TyX a E C) : C 34 = .inl (E 0, 3, .inl (ga (C 34))) := (tX_34 h).1
theorem sM_0 {a : Nat → Nat} {E : Nat → ClassId} {C : Nat → va_E} (h : TyM a E C) : C 0 = .inr (7, [.ref (a 1), .ref (a 2), .ref (a 3), .ref (a 4), .ref (a 5), .ref (a 6), .ref (a 7), .int (gi (C 0) 7), .ref (a 8), .int (gi (C 0) 9), .ref (a 9), .int (gi (C 0) 11), .ref (a 10), .int (gi (C 0) 13), .ref (a 11), .int (gi (C 0) 15), .ref (a 12), .ref (a 13), .ref (a 14), .int (gi (C 0) 19), gv (C 0) 20, .int (gi (C 0) 21), .int (gi (C 0) 22), .int (gi (C 0) 23), .long (gl (C 0) 24), .int (gi (C 0) 25), .int (gi (C 0) 26), .ref (a 15), .int (gi (C 0) 28)]) := (h.1 0 (by decide)).1
theorem fM_0_7 {a : Nat → Nat} {E : Nat → ClassId} {C : Nat → va_E} (h : TyM a E C) : rg (gi (C 0) 7) 0 250 := (h.1 0 (by decide)).2.1
theorem fM_0_9 {a : Nat → Nat} {E : Nat → ClassId} {C : Nat → va_E} (h : TyM a E C) : rg (gi (C 0) 9) 0 24 := (h.1 0 (by decide)).2.2.1
theorem fM_0_11 {a : Nat → Nat} {E : Nat → ClassId} {C : Nat → va_E} (h : TyM a E C) : rg (gi (C 0) 11) 0 16 := (h.1 0 (by decide)).2.2.2.1
theorem fM_0_13 {a : Nat → Nat} {E : Nat → ClassId} {C : Nat → va_E} (h : TyM a E C) : rg (gi (C 0) 13) 0 5 := (h.1 0 (by decide)).2.2.2.2.1
theorem fM_0_15 {a : Nat → Nat} {E : Nat → ClassId} {C : Nat → va_E} (h : TyM a E C) : rg (gi (C 0) 15) 0 5 := (h.1 0 (by decide)).2.2.2.2.2.1
theorem fM_0_21 {a : Nat → Nat} {E : Nat → ClassId} {C : Nat → va_E} (h : TyM a E C) : rg (gi (C 0) 21) 0 250 := (h.1 0 (by decide)).2.2.2.2.2.2.1
theorem fM_0_23 {a : Nat → Nat} {E : Nat → ClassId} {C : Nat → va_E} (h : TyM a E C) : rg (gi (C 0) 23) 0 250 := (h.1 0 (by decide)).2.2.2.2.2.2.2
theorem tM_1 {a : Nat → Nat} {E : Nat → ClassId} {C : Nat → va_E} (h : TyM a E C) : tA (E 0) 8 1 [(0, 2)] (C 1) := h.1 1 (by decide)
theorem sM_1 {a : Nat → Nat} {E : Nat → ClassId} {C : Nat → va_E} (h : TyM a E C) : C 1 = .inl (E 0, 8, .inl (ga (C 1))) := (tM_1 h).1
theorem tM_2 {a : Nat → Nat} {E : Nat → ClassId} {C : Nat → va_E} (h : TyM a E C) : tA (E 0) 8 1 [] (C 2) := h.1 2 (by decide)
theorem sM_2 {a : Nat → Nat} {E : Nat → ClassId} {C : Nat → va_E} (h : TyM a E C) : C 2 = .inl (E 0, 8, .inl (ga (C 2))) := (tM_2 h).1
theorem tM_3 {a : Nat → Nat} {E : Nat → ClassId} {C : Nat → va_E} (h : TyM a E C) : tA (E 0) 8 1 [(0, 40)] (C 3) := h.1 3 (by decide)
theorem sM_3 {a : Nat → Nat} {E : Nat → ClassId} {C : Nat → va_E} (h : TyM a E C) : C 3 = .inl (E 0, 8, .inl (ga (C 3))) := (tM_3 h).1
theorem sM_4 {a : Nat → Nat} {E : Nat → ClassId} {C : Nat → va_E} (h : TyM a E C) : C 4 = .inl (E 3, 8, .inr (.inr (.inr (.inr (qf a 8 16))))) := h.1 4 (by decide)
theorem sM_5 {a : Nat → Nat} {E : Nat → ClassId} {C : Nat → va_E} (h : TyM a E C) : C 5 = .inl (E 1, 40, .inr (.inl (gb (C 5)))) := h.1 5 (by decide)
theorem tM_6 {a : Nat → Nat} {E : Nat → ClassId} {C : Nat → va_E} (h : TyM a E C) : tA (E 0) 8 1 [(-1, 15)] (C 6) := h.1 6 (by decide)
theorem sM_6 {a : Nat → Nat} {E : Nat → ClassId} {C : Nat → va_E} (h : TyM a E C) : C 6 = .inl (E 0, 8, .inl (ga (C 6))) := (tM_6 h).1
theorem tM_7 {a : Nat → Nat} {E : Nat → ClassId} {C : Nat → va_E} (h : TyM a E C) : tA (E 0) 250 1 [] (C 7) := h.1 7 (by decide)
theorem sM_7 {a : Nat → Nat} {E : Nat → ClassId} {C : Nat → va_E} (h : TyM a E C) : C 7 = .inl (E 0, 250, .inl (ga (C 7))) := (tM_7 h).1
theorem tM_8 {a : Nat → Nat} {E : Nat → ClassId} {C : Nat → va_E} (h : TyM a E C) : tA (E 0) 8 1 [] (C 8) := h.1 8 (by decide)
theorem sM_8 {a : Nat → Nat} {E : Nat → ClassId} {C : Nat → va_E} (h : TyM a E C) : C 8 = .inl (E 0, 8, .inl (ga (C 8))) := (tM_8 h).1
theorem sM_9 {a : Nat → Nat} {E : Nat → ClassId} {C : Nat → va_E} (h : TyM a E C) : C 9 = .inl (E 2, 24, .inr (.inr (.inr (.inr (qf a 24 24))))) := h.1 9 (by decide)
theorem sM_10 {a : Nat → Nat} {E : Nat → ClassId} {C : Nat → va_E} (h : TyM a E C) : C 10 = .inl (E 2, 16, .inr (.inr (.inr (.inr (qf a 16 48))))) := h.1 10 (by decide)
theorem sM_11 {a : Nat → Nat} {E : Nat → ClassId} {C : Nat → va_E} (h : TyM a E C) : C 11 = .inl (E 2, 5, .inr (.inr (.inr (.inr (qf a 5 64))))) := h.1 11 (by decide)
theorem sM_12 {a : Nat → Nat} {E : Nat → ClassId} {C : Nat → va_E} (h : TyM a E C) : C 12 = .inl (E 2, 5, .inr (.inr (.inr (.inr (qf a 5 69))))) := h.1 12 (by decide)
theorem tM_13 {a : Nat → Nat} {E : Nat → ClassId} {C : Nat → va_E} (h : TyM a E C) : tA (E 0) 3 3 [] (C 13) := h.1 13 (by decide)
theorem sM_13 {a : Nat → Nat} {E : Nat → ClassId} {C : Nat → va_E} (h : TyM a E C) : C 13 = .inl (E 0, 3, .inl (ga (C 13))) := (tM_13 h).1
theorem tM_14 {a : Nat → Nat} {E : Nat → ClassId} {C : Nat → va_E} (h : TyM a E C) : tA (E 0) 7 7 [(-2147483648, 2147483647), (0, 4), (-2147483648, 2147483647), (0, 15), (0, 15)] (C 14) := h.1 14 (by decide)
theorem sM_14 {a : Nat → Nat} {E : Nat → ClassId} {C : Nat → va_E} (h : TyM a E C) : C 14 = .inl (E 0, 7, .inl (ga (C 14))) := (tM_14 h).1
theorem sM_15 {a : Nat → Nat} {E : Nat → ClassId} {C : Nat → va_E} (h : TyM a E C) : C 15 = .inl (E 1, 16, .inr (.inl (gb (C 15)))) := h.1 15 (by decide)
theorem vp_lt {i : Int32} {N : Nat} (h : vp_in i N) : i.toNatClampNeg < N := Nat.not_le.mp fun q => h (Or.inr q)
theorem lt_blk {b N i n : Nat} (hi : i < N) (hn : 74 ≤ n) (hd : decide (b + N ≤ 74) = true) : b + i < n := by
  have := of_decide_eq_true hd
  omega
theorem tA_any {v : Int32} {c : Nat} : rg v (bdl [] c) (bdh [] c) := rg_any v
section
theorem ig_0 : ∀ w ∈ u_ws RX0 TX0 8, w ∈ oh_t := oh_ofs [115, 117, 119, 121, 123, 125, 127, 129] (by decide +kernel) (by decide +kernel)
theorem oh_df0 : ∀ j, j < 8 → defaultValue (tyX0 j) = vp_V [.null, .null, .null, .null, .null, .null, .null, .int 0] j := by
  intro j hj
  rcases (show j = 0 ∨ j = 1 ∨ j = 2 ∨ j = 3 ∨ j = 4 ∨ j = 5 ∨ j = 6 ∨ j = 7 by omega) with rfl | rfl | rfl | rfl | rfl | rfl | rfl | rfl <;> rfl
theorem ig_1 : ∀ w ∈ u_ws RX1 TX1 5, w ∈ oh_t := oh_ofs [155, 157, 159, 161, 163] (by decide +kernel) (by decide +kernel)
theorem oh_df1 : ∀ j, j < 5 → defaultValue (tyX1 j) = vp_V [.int 0, .int 0, .int 0, .int 0, .int 0] j := by
  intro j hj
  rcases (show j = 0 ∨ j = 1 ∨ j = 2 ∨ j = 3 ∨ j = 4 by omega) with rfl | rfl | rfl | rfl | rfl <;> rfl
theorem ig_2 : ∀ w ∈ u_ws RX2 TX2 4, w ∈ oh_t := oh_ofs [249, 251, 253, 255] (by decide +kernel) (by decide +kernel)
theorem oh_df2 : ∀ j, j < 4 → defaultValue (tyX2 j) = vp_V [.null, .null, .null, .null] j := by
  intro j hj
  rcases (show j = 0 ∨ j = 1 ∨ j = 2 ∨ j = 3 by omega) with rfl | rfl | rfl | rfl <;> rfl
theorem ig_3 : ∀ w ∈ u_ws RX3 TX3 3, w ∈ oh_t := oh_ofs [203, 205, 207] (by decide +kernel) (by decide +kernel)
theorem oh_df3 : ∀ j, j < 3 → defaultValue (tyX3 j) = vp_V [.null, .null, .null] j := by
  intro j hj
  rcases (show j = 0 ∨ j = 1 ∨ j = 2 by omega) with rfl | rfl | rfl <;> rfl
theorem ig_4 : ∀ w ∈ u_ws RX4 TX4 6, w ∈ oh_t := oh_ofs [225, 227, 229, 231, 233, 235] (by decide +kernel) (by decide +kernel)
theorem oh_df4 : ∀ j, j < 6 → defaultValue (tyX4 j) = vp_V [.null, .int 0, .int 0, .int 0, .int 0, .int 0] j := by
  intro j hj
  rcases (show j = 0 ∨ j = 1 ∨ j = 2 ∨ j = 3 ∨ j = 4 ∨ j = 5 by omega) with rfl | rfl | rfl | rfl | rfl | rfl <;> rfl
theorem ig_5 : ∀ w ∈ u_ws RX5 TX5 7, w ∈ oh_t := oh_ofs [177, 179, 181, 183, 185, 187, 189] (by decide +kernel) (by decide +kernel)
theorem oh_df5 : ∀ j, j < 7 → defaultValue (tyX5 j) = vp_V [.null, .null, .null, .null, .null, .null, .null] j := by
  intro j hj
  rcases (show j = 0 ∨ j = 1 ∨ j = 2 ∨ j = 3 ∨ j = 4 ∨ j = 5 ∨ j = 6 by omega) with rfl | rfl | rfl | rfl | rfl | rfl | rfl <;> rfl
theorem ig_6 : ∀ w ∈ u_ws RX6 TX6 9, w ∈ oh_t := oh_ofs [267, 269, 271, 273, 275, 277, 279, 281, 283] (by decide +kernel) (by decide +kernel)
theorem oh_df6 : ∀ j, j < 9 → defaultValue (tyX6 j) = vp_V [.null, .null, .int 0, .null, .null, .null, .null, .null, .null] j := by
  intro j hj
  rcases (show j = 0 ∨ j = 1 ∨ j = 2 ∨ j = 3 ∨ j = 4 ∨ j = 5 ∨ j = 6 ∨ j = 7 ∨ j = 8 by omega) with rfl | rfl | rfl | rfl | rfl | rfl | rfl | rfl | rfl <;> rfl
theorem ig_7 : ∀ w ∈ u_ws RX7 TX7 29, w ∈ oh_t := oh_ofs [1002, 1004, 1006, 1008, 1010, 1012, 1014, 1016, 1018, 1020, 1022, 1024, 1026, 1028, 1030, 1032, 1034, 1036, 1038, 1040, 1042, 1044, 1046, 1048, 1050, 1052, 1054, 1056, 1058] (by decide +kernel) (by decide +kernel)
theorem oh_df7 : ∀ j, j < 29 → defaultValue (tyX7 j) = vp_V [.null, .null, .null, .null, .null, .null, .null, .int 0, .null, .int 0, .null, .int 0, .null, .int 0, .null, .int 0, .null, .null, .null, .int 0, .null, .int 0, .int 0, .int 0, .long 0, .int 0, .int 0, .null, .int 0] j := by
  intro j hj
  rcases (show j = 0 ∨ j = 1 ∨ j = 2 ∨ j = 3 ∨ j = 4 ∨ j = 5 ∨ j = 6 ∨ j = 7 ∨ j = 8 ∨ j = 9 ∨ j = 10 ∨ j = 11 ∨ j = 12 ∨ j = 13 ∨ j = 14 ∨ j = 15 ∨ j = 16 ∨ j = 17 ∨ j = 18 ∨ j = 19 ∨ j = 20 ∨ j = 21 ∨ j = 22 ∨ j = 23 ∨ j = 24 ∨ j = 25 ∨ j = 26 ∨ j = 27 ∨ j = 28 by omega) with rfl | rfl | rfl | rfl | rfl | rfl | rfl | rfl | rfl | rfl | rfl | rfl | rfl | rfl | rfl | rfl | rfl | rfl | rfl | rfl | rfl | rfl | rfl | rfl | rfl | rfl | rfl | rfl | rfl <;> rfl
theorem oh_new_i (n : Nat) (c : ClassId) : vp_cell c (n, .inl (fun _ => 0)) = arrV c n (fun _ => defaultValue .int) := rfl
theorem oh_new_l (n : Nat) (c : ClassId) : vp_cell c (n, .inr (.inl (fun _ => 0))) = arrV c n (fun _ => defaultValue .long) := rfl
theorem oh_nn {x : Int32} {l u : Int} (h : rg x l u) (hd : decide (0 ≤ l) = true) : ¬ x < 0 := by
  have h2 := of_decide_eq_true hd
  intro c
  have := Int32.lt_iff_toInt_lt.mp c
  have e : (0 : Int32).toInt = 0 := rfl
  obtain ⟨a1, a2⟩ := h
  omega
theorem oh_cp {s i n : Int32} (hs : rg s 0 7) (hn : rg n 0 40) (hi : i.toInt + n.toInt ≤ 40) (h0 : 0 ≤ i.toInt) : (s * 40 + i).toNatClampNeg + n.toNatClampNeg ≤ 320 := by
  have h1 : rg (s * 40) 0 280 := rg_mul hs (rg_c (v := 40) (lo := 40) (hi := 40) (by decide)) (by decide)
  have h2 : rg i 0 40 := ⟨h0, by have := hn.1; omega⟩
  have e1 : (s * 40).toInt = s.toInt * 40 := by
    rw [Int32.toInt_mul]
    exact oh_bmod (by show _ ≤ s.toInt * 40; have := hs.1; omega) (by show s.toInt * 40 ≤ _; have := hs.2; omega)
  have e2 : (s * 40 + i).toInt = s.toInt * 40 + i.toInt := by
    rw [Int32.toInt_add, e1]
    exact oh_bmod (by have := hs.1; omega) (by have := hs.2; have := h2.2; omega)
  show (s * 40 + i).toInt.toNat + n.toInt.toNat ≤ 320
  rw [e2]
  obtain ⟨a1, a2⟩ := hs
  obtain ⟨b1, b2⟩ := hn
  omega
theorem fr_ste {mc : List (Nat × Nat)} {mf : List Nat} {C0 C C2 : Nat → va_E} {k : Nat} {x : va_E} (h : fr mc mf C0 C) (e : C2 = updc C k x) (hk : k ≠ 0) (hm : inR mc k = true) : fr mc mf C0 C2 := by rw [e]; exact fr_st h hk hm
theorem fr_fde {mc : List (Nat × Nat)} {mf : List Nat} {C0 C C2 : Nat → va_E} {ci j : Nat} {fs : List Value} {v : Value} (h : fr mc mf C0 C) (e : C2 = updc C 0 (.inr (ci, fs.set j v))) (hs : C 0 = .inr (ci, fs)) (hj : j ∈ mf) : fr mc mf C0 C2 := by rw [e]; exact fr_fd h hs hj
theorem oh_rgA {c d : va_E} {j : Nat} {lo hi : Int} (e : c = d) (h : rg (ga d j) lo hi) : rg (ga c j) lo hi := by rw [e]; exact h
theorem oh_rgF {x y : Int32} {lo hi : Int} (e : x = y) (h : rg y lo hi) : rg x lo hi := by rw [e]; exact h
theorem inR_out {l : List (Nat × Nat)} {b N i : Nat} (hi : i < N) (h : l.all (fun p => Nat.ble (b + N) p.1 || Nat.ble p.2 b) = true) : inR l (b + i) = false := by
  cases e : inR l (b + i) with
  | false => rfl
  | true =>
    unfold inR at e
    rw [List.any_eq_true] at e
    obtain ⟨p, hp, h1⟩ := e
    rw [Bool.and_eq_true, Nat.ble_eq, Nat.blt_eq] at h1
    have h2 := List.all_eq_true.mp h p hp
    rw [Bool.or_eq_true, Nat.ble_eq, Nat.ble_eq] at h2
    omega
theorem rg_shl1 {p : Int32} (h : rg p 0 5) : rg ((1 : Int32) <<< (p &&& 31)) 1 32 := by
  obtain ⟨h1, h2⟩ := h
  have h3 : p.toInt = 0 ∨ p.toInt = 1 ∨ p.toInt = 2 ∨ p.toInt = 3 ∨ p.toInt = 4 ∨ p.toInt = 5 := by omega
  have k : p = 0 ∨ p = 1 ∨ p = 2 ∨ p = 3 ∨ p = 4 ∨ p = 5 := by
    rcases h3 with e | e | e | e | e | e
    · exact Or.inl (Int32.toInt_inj.mp e)
    · exact Or.inr (Or.inl (Int32.toInt_inj.mp e))
    · exact Or.inr (Or.inr (Or.inl (Int32.toInt_inj.mp e)))
    · exact Or.inr (Or.inr (Or.inr (Or.inl (Int32.toInt_inj.mp e))))
    · exact Or.inr (Or.inr (Or.inr (Or.inr (Or.inl (Int32.toInt_inj.mp e)))))
    · exact Or.inr (Or.inr (Or.inr (Or.inr (Or.inr (Int32.toInt_inj.mp e)))))
  rcases k with e | e | e | e | e | e <;> subst e <;> exact rg_c (by decide)
theorem va_nil {D : va_G} {H : Heap} : va_P D vwCl [] H := fun k q h => by simp at h
theorem oh_fv {fs : List Value} {j : Nat} {c : va_E} {v : Int32} (h : fs[j]? = some (.int (gi c j))) (e : gi c j = v) : fs[j]? = some (.int v) := by rw [h, e]
theorem oh_fz {r : Int32} (h : r = 0 ∨ r = 1) : fits .boolean (.int r) = true := by
  rcases h with h | h <;> subst h <;> rfl
theorem oh_rgb {r : Int32} (h : r = 0 ∨ r = 1) : rg r 0 1 := by
  rcases h with h | h <;> subst h <;> exact rg_c (by decide)
theorem oh_rgb2 {r : Int32} (h : rg r 0 1) : r = 0 ∨ r = 1 := by
  obtain ⟨h1, h2⟩ := h
  have : r.toInt = 0 ∨ r.toInt = 1 := by omega
  rcases this with e | e
  · exact Or.inl (Int32.toInt_inj.mp e)
  · exact Or.inr (Int32.toInt_inj.mp e)
theorem st_ga {C C2 : Nat → va_E} {k n : Nat} {cA : ClassId} {f : Nat → Int32} (e : C2 = updc C k (.inl (cA, n, .inl f))) : ga (C2 k) = f := by
  rw [e, updc_eq]
  rfl
theorem oh_srec {G : Nat → Nat} {A : Nat → Prop} {s : State} {H : Heap} {locs : List Loc} (hG : oh_G G A s) (hS : va_S A s.heap H locs) {j : Nat} (hj : j < 34) : ∃ cell : Cell, H[G (3 + j)]? = some cell ∧ cell.vm.isStatics = false ∧ s.vm.findClass "java/lang/String" = some cell.cls := by
  obtain ⟨cell, h1, h2, h3, -⟩ := (hG.2.2.2.2.2.2.2.2.2.2 j hj).1.kept hS.2.1
  exact ⟨cell, h1, h2, h3⟩
def oh_Sv : Array Value → State → Outcome → State → Prop := fun _ st o t => o = .returned none ∧ t.heap = st.heap
section TH2
variable {p : Program} {l : Launch} {e : Env} {R : Room} {s : State} {m : MethodId} {args : Array Value} {below : List Frame} {meth : Method} {c : Code} {H : Heap} {locs : List Loc} {cells slots : Nat} {Q : State → Prop}
variable {cc : ByteArray} {pc n index : Nat} {ls : Array Slot} {rest : List Value} {D : va_G} {E : Nat → ClassId} {A : Nat → Prop} {own : String} {a : Nat → Nat} {C : Nat → va_E} {H0 : Heap}
theorem oh_callSv {av : Array Value} {st0 : List Value} (hr : CallRun p l e R s m args below meth c H locs cells slots 0 0 (F0 m pc ls st0) rest (oh_Sv av) (fun _ => False))
    (kk : W p l e R s m args below meth c H locs cells slots Q (F0 m (pc + 3) ls rest)) : W p l e R s m args below meth c H locs cells slots Q (F0 m pc ls st0) := by
  intro T hT X
  obtain ⟨v, st₀, t, T', L, h0, X', hL, e1, ⟨hv, hh⟩, st⟩ := hr T hT X
  cases hv
  obtain ⟨t2, a1, b1⟩ := kk T' (by rw [e1, hh, h0]) (Stand.forget X' (fun q h => (hL q h).elim))
  exact ⟨t2, st t2 a1, b1⟩
theorem tq_Sv {G : Nat → Nat} {As st0 : List Value} {bytes : ByteArray} {maxL nn nL : Nat} {ret : Option FieldType} {rm : Room} {y : MethodName} {ws : va_W} (S : CallFix p m c cc nL s args oh_t own) (hM : Met l y (oh_w y bytes maxL ret) rm (oh_Pp D E G As ws) oh_Sv 0 0 (fun _ => False)) (cw : CallB R s args own index y bytes maxL ret (oh_w y bytes maxL ret) rm 0 0 nn ∧ (Cond.static y).before args s = true) (hK : va_K D vwCl (oh_ty E) s) (hP : va_P D vwCl ws H) (hG : oh_G G A s) (hS : va_S A s.heap H locs)
    (hn : As.length = nn) (hsize : ls.size = nL) (hst : st0 = As.reverse ++ rest) (hW : (rest.map fun v => v.category).sum ≤ 8) (hdg : decode cc pc = .ok (.invokestatic index, 3)) (hf : cells ≤ R.cells ∧ slots ≤ R.slots)
    (kk : W p l e R s m args below meth c H locs cells slots Q (F0 m (pc + 3) ls rest)) : W p l e R s m args below meth c H locs cells slots Q (F0 m pc ls st0) :=
  oh_callSv (va_Run.run (va_runS (As := As) (rest := rest) S hM cw ⟨oh_blp, oh_pre hK hP hG hS As⟩ rfl hn hsize hst (lv_room hW) hdg hf)) kk
theorem th_copyi {T Rl : (Nat → va_E) → Prop} (hexec : p.tables.exec = Jvm.exec) (hb : c.code = cc) (hml : c.maxLocals = ls.size) (hown : s.vm.findClass own = some m.cls) (hlink : (Cond.methodLink own index arraycopyName).before args s = true) (hnat : (Cond.native arraycopyName).before args s = true) (hstat : (Cond.static arraycopyName).before args s = true) (hini : (Cond.initialized "java/lang/System").before args s = true)
    (hK : va_K D vwCl (oh_ty E) s) (hP : va_P D vwCl (oh_W n a C) H) (hD : va_D A (oh_W n a C)) (hS : va_S A H0 H locs) (k0 k1 : Nat) (hk0 : k0 < n) (hk1 : k1 < n) {n0 n1 : Nat} {f g : Nat → Int32} (hs0 : C k0 = .inl (E 0, n0, .inl f)) (hs1 : C k1 = .inl (E 0, n1, .inl g))
    {sp dp nn : Int32} (h1 : ¬ sp < 0) (h2 : ¬ dp < 0) (h3 : ¬ nn < 0) (h4 : sp.toNatClampNeg + nn.toNatClampNeg ≤ n0) (h5 : dp.toNatClampNeg + nn.toNatClampNeg ≤ n1) (hT : T (updc C k1 (.inl (E 0, n1, .inl (va_cpy f g sp.toNatClampNeg dp.toNatClampNeg nn.toNatClampNeg))))) (hR : Rl (updc C k1 (.inl (E 0, n1, .inl (va_cpy f g sp.toNatClampNeg dp.toNatClampNeg nn.toNatClampNeg)))))
    (hframes : 1 ≤ R.frames) (hlocals : (rest.map fun v => v.category).sum + (nativeFrameWords "java/lang/System" "arraycopy" 5 + 11) ≤ R.locals) (hdg : decode cc pc = .ok (.invokestatic index, 3))
    (kk : ∀ (C2 : Nat → va_E) (H1 : Heap) (locs1 : List Loc), C2 = updc C k1 (.inl (E 0, n1, .inl (va_cpy f g sp.toNatClampNeg dp.toNatClampNeg nn.toNatClampNeg))) → T C2 → Rl C2 → va_P D vwCl (oh_W n a C2) H1 → va_D A (oh_W n a C2) → va_S A H0 H1 locs1 → W p l e R s m args below meth c H1 locs1 cells slots Q (F0 m (pc + 3) ls rest)) : W p l e R s m args below meth c H locs cells slots Q (F0 m pc ls (.int nn :: .int dp :: .ref (a k1) :: .int sp :: .ref (a k0) :: rest)) :=
  va_copyi (ty := .int) hexec hb hml hown hlink hnat hstat hini hK hP hD hS k0 k1 0 0 (oh_wg hk0 hs0) (oh_wg hk1 hs1) rfl rfl rfl h1 h2 h3 h4 h5 (fun _ _ => rfl) hframes hlocals hdg (fun H1 locs1 p1 d1 s1 => kk _ H1 locs1 rfl hT hR (by rw [← oh_ws hk1]; exact p1) (by rw [← oh_ws hk1]; exact d1) s1)
theorem th_copyl {T Rl : (Nat → va_E) → Prop} (hexec : p.tables.exec = Jvm.exec) (hb : c.code = cc) (hml : c.maxLocals = ls.size) (hown : s.vm.findClass own = some m.cls) (hlink : (Cond.methodLink own index arraycopyName).before args s = true) (hnat : (Cond.native arraycopyName).before args s = true) (hstat : (Cond.static arraycopyName).before args s = true) (hini : (Cond.initialized "java/lang/System").before args s = true)
    (hK : va_K D vwCl (oh_ty E) s) (hP : va_P D vwCl (oh_W n a C) H) (hD : va_D A (oh_W n a C)) (hS : va_S A H0 H locs) (k0 k1 : Nat) (hk0 : k0 < n) (hk1 : k1 < n) {n0 n1 : Nat} {f g : Nat → Int64} (hs0 : C k0 = .inl (E 1, n0, .inr (.inl f))) (hs1 : C k1 = .inl (E 1, n1, .inr (.inl g)))
    {sp dp nn : Int32} (h1 : ¬ sp < 0) (h2 : ¬ dp < 0) (h3 : ¬ nn < 0) (h4 : sp.toNatClampNeg + nn.toNatClampNeg ≤ n0) (h5 : dp.toNatClampNeg + nn.toNatClampNeg ≤ n1) (hT : T (updc C k1 (.inl (E 1, n1, .inr (.inl (va_cpy f g sp.toNatClampNeg dp.toNatClampNeg nn.toNatClampNeg)))))) (hR : Rl (updc C k1 (.inl (E 1, n1, .inr (.inl (va_cpy f g sp.toNatClampNeg dp.toNatClampNeg nn.toNatClampNeg))))))
    (hframes : 1 ≤ R.frames) (hlocals : (rest.map fun v => v.category).sum + (nativeFrameWords "java/lang/System" "arraycopy" 5 + 11) ≤ R.locals) (hdg : decode cc pc = .ok (.invokestatic index, 3))
    (kk : ∀ (C2 : Nat → va_E) (H1 : Heap) (locs1 : List Loc), C2 = updc C k1 (.inl (E 1, n1, .inr (.inl (va_cpy f g sp.toNatClampNeg dp.toNatClampNeg nn.toNatClampNeg)))) → T C2 → Rl C2 → va_P D vwCl (oh_W n a C2) H1 → va_D A (oh_W n a C2) → va_S A H0 H1 locs1 → W p l e R s m args below meth c H1 locs1 cells slots Q (F0 m (pc + 3) ls rest)) : W p l e R s m args below meth c H locs cells slots Q (F0 m pc ls (.int nn :: .int dp :: .ref (a k1) :: .int sp :: .ref (a k0) :: rest)) :=
  va_copyl (ty := .long) hexec hb hml hown hlink hnat hstat hini hK hP hD hS k0 k1 1 1 (oh_wg hk0 hs0) (oh_wg hk1 hs1) rfl rfl rfl h1 h2 h3 h4 h5 (fun _ _ => rfl) hframes hlocals hdg (fun H1 locs1 p1 d1 s1 => kk _ H1 locs1 rfl hT hR (by rw [← oh_ws hk1]; exact p1) (by rw [← oh_ws hk1]; exact d1) s1)
end TH2
end
/-! a byte of a code, instructions by their bytes -/
def rdB (c : ByteArray) (p b : Nat) : Prop := ∃ h : p < c.size, (c[p]'h).toNat = b
theorem rd_bind {α β : Type} {x : Jvm.ClassFile.Decoder α} {f : α → Jvm.ClassFile.Decoder β} {c : ByteArray} {p q : Nat} {a : α} (h : x c p = .ok (a, q)) : (x >>= f) c p = f a c q := by
  show (x c p >>= fun z => f z.1 c z.2) = f a c q
  rw [h]
  rfl
theorem rd_map {α β : Type} {x : Jvm.ClassFile.Decoder α} {f : α → β} {c : ByteArray} {p q : Nat} {a : α} (h : x c p = .ok (a, q)) : (f <$> x) c p = .ok (f a, q) := by
  show (x c p >>= fun z => Except.ok (f z.1, z.2)) = _
  rw [h]
  rfl
theorem u1_at {c : ByteArray} {p b : Nat} (h : rdB c p b) : (Jvm.ClassFile.Reader.u1 : Jvm.ClassFile.Decoder Nat) c p = .ok (b, p + 1) := by
  obtain ⟨h1, h2⟩ := h
  unfold Jvm.ClassFile.Reader.u1
  refine Eq.trans (rd_bind (a := c) (q := p) ?_) ?_
  · rfl
  refine Eq.trans (rd_bind (a := p) (q := p) ?_) ?_
  · rfl
  rw [dif_pos h1, ← h2]
  rfl
theorem u2_at {c : ByteArray} {p a b : Nat} (h1 : rdB c p a) (h2 : rdB c (p + 1) b) : (Jvm.ClassFile.Reader.u2 : Jvm.ClassFile.Decoder Nat) c p = .ok (a * 256 + b, p + 2) := by
  unfold Jvm.ClassFile.Reader.u2
  refine Eq.trans (rd_bind (u1_at h1)) ?_
  exact Eq.trans (rd_bind (u1_at h2)) rfl
theorem s1_at {c : ByteArray} {p a : Nat} {v : Int} (h1 : rdB c p a) (hv : Jvm.ClassFile.Reader.signed 8 a = v) : (Jvm.ClassFile.Reader.s1 : Jvm.ClassFile.Decoder Int) c p = .ok (v, p + 1) := by
  rw [← hv]
  exact rd_map (u1_at h1)
theorem s2_at {c : ByteArray} {p a b : Nat} {v : Int} (h1 : rdB c p a) (h2 : rdB c (p + 1) b) (hv : Jvm.ClassFile.Reader.signed 16 (a * 256 + b) = v) : (Jvm.ClassFile.Reader.s2 : Jvm.ClassFile.Decoder Int) c p = .ok (v, p + 2) := by
  rw [← hv]
  exact rd_map (u2_at h1 h2)
theorem dec_of {c : ByteArray} {pc n : Nat} {i : Instr} (h : Jvm.ClassFile.Decoder.instr pc c pc = .ok (i, pc + n)) : decode c pc = .ok (i, n) := by
  show (Jvm.ClassFile.Decoder.instr pc c pc >>= fun z => Except.ok (z.1, z.2 - pc)) = _
  rw [h]
  show Except.ok (i, pc + n - pc) = _
  rw [Nat.add_sub_cancel_left]
def bysAt (c : ByteArray) (p : Nat) (L : List Nat) : Prop := ∀ i b, L[i]? = some b → rdB c (p + i) b
theorem bysAt_of {c : ByteArray} {p : Nat} {L : List Nat} (h : ((c.data.toList.drop p).take L.length).map UInt8.toNat = L) : bysAt c p L := by
  intro i b hb
  rw [← h, List.getElem?_map, List.getElem?_take] at hb
  by_cases q : i < L.length
  · rw [if_pos q, List.getElem?_drop] at hb
    cases e : c.data.toList[p + i]? with
    | none =>
      rw [e] at hb
      exact absurd hb (by intro z; cases z)
    | some x =>
      rw [e] at hb
      obtain ⟨h1, h2⟩ := List.getElem?_eq_some_iff.mp e
      have hs : p + i < c.size := h1
      refine ⟨hs, ?_⟩
      have e3 : c[p + i]'hs = x := h2
      rw [e3]
      exact Option.some.inj hb
  · rw [if_neg q] at hb
    exact absurd hb (by intro z; cases z)
theorem o_10 {c : ByteArray} {pc : Nat} (h : rdB c pc 10) : decode c pc = .ok (.lconst 1, 1) := dec_of (n := 1) (rd_bind (u1_at h))
theorem o_100 {c : ByteArray} {pc : Nat} (h : rdB c pc 100) : decode c pc = .ok (.isub, 1) := dec_of (n := 1) (rd_bind (u1_at h))
theorem o_101 {c : ByteArray} {pc : Nat} (h : rdB c pc 101) : decode c pc = .ok (.lsub, 1) := dec_of (n := 1) (rd_bind (u1_at h))
theorem o_104 {c : ByteArray} {pc : Nat} (h : rdB c pc 104) : decode c pc = .ok (.imul, 1) := dec_of (n := 1) (rd_bind (u1_at h))
theorem o_105 {c : ByteArray} {pc : Nat} (h : rdB c pc 105) : decode c pc = .ok (.lmul, 1) := dec_of (n := 1) (rd_bind (u1_at h))
theorem o_108 {c : ByteArray} {pc : Nat} (h : rdB c pc 108) : decode c pc = .ok (.idiv, 1) := dec_of (n := 1) (rd_bind (u1_at h))
theorem o_112 {c : ByteArray} {pc : Nat} (h : rdB c pc 112) : decode c pc = .ok (.irem, 1) := dec_of (n := 1) (rd_bind (u1_at h))
theorem o_116 {c : ByteArray} {pc : Nat} (h : rdB c pc 116) : decode c pc = .ok (.ineg, 1) := dec_of (n := 1) (rd_bind (u1_at h))
theorem o_120 {c : ByteArray} {pc : Nat} (h : rdB c pc 120) : decode c pc = .ok (.ishl, 1) := dec_of (n := 1) (rd_bind (u1_at h))
theorem o_121 {c : ByteArray} {pc : Nat} (h : rdB c pc 121) : decode c pc = .ok (.lshl, 1) := dec_of (n := 1) (rd_bind (u1_at h))
theorem o_122 {c : ByteArray} {pc : Nat} (h : rdB c pc 122) : decode c pc = .ok (.ishr, 1) := dec_of (n := 1) (rd_bind (u1_at h))
theorem o_124 {c : ByteArray} {pc : Nat} (h : rdB c pc 124) : decode c pc = .ok (.iushr, 1) := dec_of (n := 1) (rd_bind (u1_at h))
theorem o_126 {c : ByteArray} {pc : Nat} (h : rdB c pc 126) : decode c pc = .ok (.iand, 1) := dec_of (n := 1) (rd_bind (u1_at h))
theorem o_127 {c : ByteArray} {pc : Nat} (h : rdB c pc 127) : decode c pc = .ok (.land, 1) := dec_of (n := 1) (rd_bind (u1_at h))
theorem o_128 {c : ByteArray} {pc : Nat} (h : rdB c pc 128) : decode c pc = .ok (.ior, 1) := dec_of (n := 1) (rd_bind (u1_at h))
theorem o_129 {c : ByteArray} {pc : Nat} (h : rdB c pc 129) : decode c pc = .ok (.lor, 1) := dec_of (n := 1) (rd_bind (u1_at h))
theorem o_133 {c : ByteArray} {pc : Nat} (h : rdB c pc 133) : decode c pc = .ok (.i2l, 1) := dec_of (n := 1) (rd_bind (u1_at h))
theorem o_136 {c : ByteArray} {pc : Nat} (h : rdB c pc 136) : decode c pc = .ok (.l2i, 1) := dec_of (n := 1) (rd_bind (u1_at h))
theorem o_145 {c : ByteArray} {pc : Nat} (h : rdB c pc 145) : decode c pc = .ok (.i2b, 1) := dec_of (n := 1) (rd_bind (u1_at h))
theorem o_146 {c : ByteArray} {pc : Nat} (h : rdB c pc 146) : decode c pc = .ok (.i2c, 1) := dec_of (n := 1) (rd_bind (u1_at h))
theorem o_147 {c : ByteArray} {pc : Nat} (h : rdB c pc 147) : decode c pc = .ok (.i2s, 1) := dec_of (n := 1) (rd_bind (u1_at h))
theorem o_148 {c : ByteArray} {pc : Nat} (h : rdB c pc 148) : decode c pc = .ok (.lcmp, 1) := dec_of (n := 1) (rd_bind (u1_at h))
theorem o_153 {c : ByteArray} {pc a b : Nat} {v : Int} (h : rdB c pc 153) (h1 : rdB c (pc + 1) a) (h2 : rdB c (pc + 1 + 1) b) (hv : Jvm.ClassFile.Reader.signed 16 (a * 256 + b) = v) : decode c pc = .ok (.ifCond .eq v, 3) := dec_of (n := 3) (Eq.trans (rd_bind (u1_at h)) (rd_bind (s2_at h1 h2 hv)))
theorem o_154 {c : ByteArray} {pc a b : Nat} {v : Int} (h : rdB c pc 154) (h1 : rdB c (pc + 1) a) (h2 : rdB c (pc + 1 + 1) b) (hv : Jvm.ClassFile.Reader.signed 16 (a * 256 + b) = v) : decode c pc = .ok (.ifCond .ne v, 3) := dec_of (n := 3) (Eq.trans (rd_bind (u1_at h)) (rd_bind (s2_at h1 h2 hv)))
theorem o_155 {c : ByteArray} {pc a b : Nat} {v : Int} (h : rdB c pc 155) (h1 : rdB c (pc + 1) a) (h2 : rdB c (pc + 1 + 1) b) (hv : Jvm.ClassFile.Reader.signed 16 (a * 256 + b) = v) : decode c pc = .ok (.ifCond .lt v, 3) := dec_of (n := 3) (Eq.trans (rd_bind (u1_at h)) (rd_bind (s2_at h1 h2 hv)))
theorem o_156 {c : ByteArray} {pc a b : Nat} {v : Int} (h : rdB c pc 156) (h1 : rdB c (pc + 1) a) (h2 : rdB c (pc + 1 + 1) b) (hv : Jvm.ClassFile.Reader.signed 16 (a * 256 + b) = v) : decode c pc = .ok (.ifCond .ge v, 3) := dec_of (n := 3) (Eq.trans (rd_bind (u1_at h)) (rd_bind (s2_at h1 h2 hv)))
theorem o_157 {c : ByteArray} {pc a b : Nat} {v : Int} (h : rdB c pc 157) (h1 : rdB c (pc + 1) a) (h2 : rdB c (pc + 1 + 1) b) (hv : Jvm.ClassFile.Reader.signed 16 (a * 256 + b) = v) : decode c pc = .ok (.ifCond .gt v, 3) := dec_of (n := 3) (Eq.trans (rd_bind (u1_at h)) (rd_bind (s2_at h1 h2 hv)))
theorem o_158 {c : ByteArray} {pc a b : Nat} {v : Int} (h : rdB c pc 158) (h1 : rdB c (pc + 1) a) (h2 : rdB c (pc + 1 + 1) b) (hv : Jvm.ClassFile.Reader.signed 16 (a * 256 + b) = v) : decode c pc = .ok (.ifCond .le v, 3) := dec_of (n := 3) (Eq.trans (rd_bind (u1_at h)) (rd_bind (s2_at h1 h2 hv)))
theorem o_159 {c : ByteArray} {pc a b : Nat} {v : Int} (h : rdB c pc 159) (h1 : rdB c (pc + 1) a) (h2 : rdB c (pc + 1 + 1) b) (hv : Jvm.ClassFile.Reader.signed 16 (a * 256 + b) = v) : decode c pc = .ok (.if_icmp .eq v, 3) := dec_of (n := 3) (Eq.trans (rd_bind (u1_at h)) (rd_bind (s2_at h1 h2 hv)))
theorem o_16 {c : ByteArray} {pc a : Nat} {v : Int} (h : rdB c pc 16) (h1 : rdB c (pc + 1) a) (hv : Jvm.ClassFile.Reader.signed 8 a = v) : decode c pc = .ok (.bipush v, 2) := dec_of (n := 2) (Eq.trans (rd_bind (u1_at h)) (rd_bind (s1_at h1 hv)))
theorem o_160 {c : ByteArray} {pc a b : Nat} {v : Int} (h : rdB c pc 160) (h1 : rdB c (pc + 1) a) (h2 : rdB c (pc + 1 + 1) b) (hv : Jvm.ClassFile.Reader.signed 16 (a * 256 + b) = v) : decode c pc = .ok (.if_icmp .ne v, 3) := dec_of (n := 3) (Eq.trans (rd_bind (u1_at h)) (rd_bind (s2_at h1 h2 hv)))
theorem o_161 {c : ByteArray} {pc a b : Nat} {v : Int} (h : rdB c pc 161) (h1 : rdB c (pc + 1) a) (h2 : rdB c (pc + 1 + 1) b) (hv : Jvm.ClassFile.Reader.signed 16 (a * 256 + b) = v) : decode c pc = .ok (.if_icmp .lt v, 3) := dec_of (n := 3) (Eq.trans (rd_bind (u1_at h)) (rd_bind (s2_at h1 h2 hv)))
theorem o_162 {c : ByteArray} {pc a b : Nat} {v : Int} (h : rdB c pc 162) (h1 : rdB c (pc + 1) a) (h2 : rdB c (pc + 1 + 1) b) (hv : Jvm.ClassFile.Reader.signed 16 (a * 256 + b) = v) : decode c pc = .ok (.if_icmp .ge v, 3) := dec_of (n := 3) (Eq.trans (rd_bind (u1_at h)) (rd_bind (s2_at h1 h2 hv)))
theorem o_163 {c : ByteArray} {pc a b : Nat} {v : Int} (h : rdB c pc 163) (h1 : rdB c (pc + 1) a) (h2 : rdB c (pc + 1 + 1) b) (hv : Jvm.ClassFile.Reader.signed 16 (a * 256 + b) = v) : decode c pc = .ok (.if_icmp .gt v, 3) := dec_of (n := 3) (Eq.trans (rd_bind (u1_at h)) (rd_bind (s2_at h1 h2 hv)))
theorem o_164 {c : ByteArray} {pc a b : Nat} {v : Int} (h : rdB c pc 164) (h1 : rdB c (pc + 1) a) (h2 : rdB c (pc + 1 + 1) b) (hv : Jvm.ClassFile.Reader.signed 16 (a * 256 + b) = v) : decode c pc = .ok (.if_icmp .le v, 3) := dec_of (n := 3) (Eq.trans (rd_bind (u1_at h)) (rd_bind (s2_at h1 h2 hv)))
theorem o_167 {c : ByteArray} {pc a b : Nat} {v : Int} (h : rdB c pc 167) (h1 : rdB c (pc + 1) a) (h2 : rdB c (pc + 1 + 1) b) (hv : Jvm.ClassFile.Reader.signed 16 (a * 256 + b) = v) : decode c pc = .ok (.goto v, 3) := dec_of (n := 3) (Eq.trans (rd_bind (u1_at h)) (rd_bind (s2_at h1 h2 hv)))
theorem o_17 {c : ByteArray} {pc a b : Nat} {v : Int} (h : rdB c pc 17) (h1 : rdB c (pc + 1) a) (h2 : rdB c (pc + 1 + 1) b) (hv : Jvm.ClassFile.Reader.signed 16 (a * 256 + b) = v) : decode c pc = .ok (.sipush v, 3) := dec_of (n := 3) (Eq.trans (rd_bind (u1_at h)) (rd_bind (s2_at h1 h2 hv)))
theorem o_172 {c : ByteArray} {pc : Nat} (h : rdB c pc 172) : decode c pc = .ok (.ireturn, 1) := dec_of (n := 1) (rd_bind (u1_at h))
theorem o_173 {c : ByteArray} {pc : Nat} (h : rdB c pc 173) : decode c pc = .ok (.lreturn, 1) := dec_of (n := 1) (rd_bind (u1_at h))
theorem o_177 {c : ByteArray} {pc : Nat} (h : rdB c pc 177) : decode c pc = .ok (.return_, 1) := dec_of (n := 1) (rd_bind (u1_at h))
theorem o_178 {c : ByteArray} {pc a b : Nat} (h : rdB c pc 178) (h1 : rdB c (pc + 1) a) (h2 : rdB c (pc + 1 + 1) b) : decode c pc = .ok (.getstatic (a * 256 + b), 3) := dec_of (n := 3) (Eq.trans (rd_bind (u1_at h)) (rd_bind (u2_at h1 h2)))
theorem o_18 {c : ByteArray} {pc a : Nat} (h : rdB c pc 18) (h1 : rdB c (pc + 1) a) : decode c pc = .ok (.ldc a, 2) := dec_of (n := 2) (Eq.trans (rd_bind (u1_at h)) (rd_bind (u1_at h1)))
theorem o_180 {c : ByteArray} {pc a b : Nat} (h : rdB c pc 180) (h1 : rdB c (pc + 1) a) (h2 : rdB c (pc + 1 + 1) b) : decode c pc = .ok (.getfield (a * 256 + b), 3) := dec_of (n := 3) (Eq.trans (rd_bind (u1_at h)) (rd_bind (u2_at h1 h2)))
theorem o_181 {c : ByteArray} {pc a b : Nat} (h : rdB c pc 181) (h1 : rdB c (pc + 1) a) (h2 : rdB c (pc + 1 + 1) b) : decode c pc = .ok (.putfield (a * 256 + b), 3) := dec_of (n := 3) (Eq.trans (rd_bind (u1_at h)) (rd_bind (u2_at h1 h2)))
theorem o_182 {c : ByteArray} {pc a b : Nat} (h : rdB c pc 182) (h1 : rdB c (pc + 1) a) (h2 : rdB c (pc + 1 + 1) b) : decode c pc = .ok (.invokevirtual (a * 256 + b), 3) := dec_of (n := 3) (Eq.trans (rd_bind (u1_at h)) (rd_bind (u2_at h1 h2)))
theorem o_183 {c : ByteArray} {pc a b : Nat} (h : rdB c pc 183) (h1 : rdB c (pc + 1) a) (h2 : rdB c (pc + 1 + 1) b) : decode c pc = .ok (.invokespecial (a * 256 + b), 3) := dec_of (n := 3) (Eq.trans (rd_bind (u1_at h)) (rd_bind (u2_at h1 h2)))
theorem o_184 {c : ByteArray} {pc a b : Nat} (h : rdB c pc 184) (h1 : rdB c (pc + 1) a) (h2 : rdB c (pc + 1 + 1) b) : decode c pc = .ok (.invokestatic (a * 256 + b), 3) := dec_of (n := 3) (Eq.trans (rd_bind (u1_at h)) (rd_bind (u2_at h1 h2)))
theorem o_187 {c : ByteArray} {pc a b : Nat} (h : rdB c pc 187) (h1 : rdB c (pc + 1) a) (h2 : rdB c (pc + 1 + 1) b) : decode c pc = .ok (.new (a * 256 + b), 3) := dec_of (n := 3) (Eq.trans (rd_bind (u1_at h)) (rd_bind (u2_at h1 h2)))
theorem o_19 {c : ByteArray} {pc a b : Nat} (h : rdB c pc 19) (h1 : rdB c (pc + 1) a) (h2 : rdB c (pc + 1 + 1) b) : decode c pc = .ok (.ldc_w (a * 256 + b), 3) := dec_of (n := 3) (Eq.trans (rd_bind (u1_at h)) (rd_bind (u2_at h1 h2)))
theorem o_190 {c : ByteArray} {pc : Nat} (h : rdB c pc 190) : decode c pc = .ok (.arraylength, 1) := dec_of (n := 1) (rd_bind (u1_at h))
theorem o_199 {c : ByteArray} {pc a b : Nat} {v : Int} (h : rdB c pc 199) (h1 : rdB c (pc + 1) a) (h2 : rdB c (pc + 1 + 1) b) (hv : Jvm.ClassFile.Reader.signed 16 (a * 256 + b) = v) : decode c pc = .ok (.ifnonnull v, 3) := dec_of (n := 3) (Eq.trans (rd_bind (u1_at h)) (rd_bind (s2_at h1 h2 hv)))
theorem o_2 {c : ByteArray} {pc : Nat} (h : rdB c pc 2) : decode c pc = .ok (.iconst (-1), 1) := dec_of (n := 1) (rd_bind (u1_at h))
theorem o_20 {c : ByteArray} {pc a b : Nat} (h : rdB c pc 20) (h1 : rdB c (pc + 1) a) (h2 : rdB c (pc + 1 + 1) b) : decode c pc = .ok (.ldc2_w (a * 256 + b), 3) := dec_of (n := 3) (Eq.trans (rd_bind (u1_at h)) (rd_bind (u2_at h1 h2)))
theorem o_21 {c : ByteArray} {pc a : Nat} (h : rdB c pc 21) (h1 : rdB c (pc + 1) a) : decode c pc = .ok (.iload a, 2) := dec_of (n := 2) (Eq.trans (rd_bind (u1_at h)) (rd_bind (u1_at h1)))
theorem o_22 {c : ByteArray} {pc a : Nat} (h : rdB c pc 22) (h1 : rdB c (pc + 1) a) : decode c pc = .ok (.lload a, 2) := dec_of (n := 2) (Eq.trans (rd_bind (u1_at h)) (rd_bind (u1_at h1)))
theorem o_26 {c : ByteArray} {pc : Nat} (h : rdB c pc 26) : decode c pc = .ok (.iload_n 0, 1) := dec_of (n := 1) (rd_bind (u1_at h))
theorem o_27 {c : ByteArray} {pc : Nat} (h : rdB c pc 27) : decode c pc = .ok (.iload_n 1, 1) := dec_of (n := 1) (rd_bind (u1_at h))
theorem o_28 {c : ByteArray} {pc : Nat} (h : rdB c pc 28) : decode c pc = .ok (.iload_n 2, 1) := dec_of (n := 1) (rd_bind (u1_at h))
theorem o_29 {c : ByteArray} {pc : Nat} (h : rdB c pc 29) : decode c pc = .ok (.iload_n 3, 1) := dec_of (n := 1) (rd_bind (u1_at h))
theorem o_3 {c : ByteArray} {pc : Nat} (h : rdB c pc 3) : decode c pc = .ok (.iconst 0, 1) := dec_of (n := 1) (rd_bind (u1_at h))
theorem o_30 {c : ByteArray} {pc : Nat} (h : rdB c pc 30) : decode c pc = .ok (.lload_n 0, 1) := dec_of (n := 1) (rd_bind (u1_at h))
theorem o_31 {c : ByteArray} {pc : Nat} (h : rdB c pc 31) : decode c pc = .ok (.lload_n 1, 1) := dec_of (n := 1) (rd_bind (u1_at h))
theorem o_32 {c : ByteArray} {pc : Nat} (h : rdB c pc 32) : decode c pc = .ok (.lload_n 2, 1) := dec_of (n := 1) (rd_bind (u1_at h))
theorem o_33 {c : ByteArray} {pc : Nat} (h : rdB c pc 33) : decode c pc = .ok (.lload_n 3, 1) := dec_of (n := 1) (rd_bind (u1_at h))
theorem o_4 {c : ByteArray} {pc : Nat} (h : rdB c pc 4) : decode c pc = .ok (.iconst 1, 1) := dec_of (n := 1) (rd_bind (u1_at h))
theorem o_42 {c : ByteArray} {pc : Nat} (h : rdB c pc 42) : decode c pc = .ok (.aload_n 0, 1) := dec_of (n := 1) (rd_bind (u1_at h))
theorem o_43 {c : ByteArray} {pc : Nat} (h : rdB c pc 43) : decode c pc = .ok (.aload_n 1, 1) := dec_of (n := 1) (rd_bind (u1_at h))
theorem o_44 {c : ByteArray} {pc : Nat} (h : rdB c pc 44) : decode c pc = .ok (.aload_n 2, 1) := dec_of (n := 1) (rd_bind (u1_at h))
theorem o_45 {c : ByteArray} {pc : Nat} (h : rdB c pc 45) : decode c pc = .ok (.aload_n 3, 1) := dec_of (n := 1) (rd_bind (u1_at h))
theorem o_46 {c : ByteArray} {pc : Nat} (h : rdB c pc 46) : decode c pc = .ok (.iaload, 1) := dec_of (n := 1) (rd_bind (u1_at h))
theorem o_47 {c : ByteArray} {pc : Nat} (h : rdB c pc 47) : decode c pc = .ok (.laload, 1) := dec_of (n := 1) (rd_bind (u1_at h))
theorem o_5 {c : ByteArray} {pc : Nat} (h : rdB c pc 5) : decode c pc = .ok (.iconst 2, 1) := dec_of (n := 1) (rd_bind (u1_at h))
theorem o_50 {c : ByteArray} {pc : Nat} (h : rdB c pc 50) : decode c pc = .ok (.aaload, 1) := dec_of (n := 1) (rd_bind (u1_at h))
theorem o_51 {c : ByteArray} {pc : Nat} (h : rdB c pc 51) : decode c pc = .ok (.baload, 1) := dec_of (n := 1) (rd_bind (u1_at h))
theorem o_54 {c : ByteArray} {pc a : Nat} (h : rdB c pc 54) (h1 : rdB c (pc + 1) a) : decode c pc = .ok (.istore a, 2) := dec_of (n := 2) (Eq.trans (rd_bind (u1_at h)) (rd_bind (u1_at h1)))
theorem o_55 {c : ByteArray} {pc a : Nat} (h : rdB c pc 55) (h1 : rdB c (pc + 1) a) : decode c pc = .ok (.lstore a, 2) := dec_of (n := 2) (Eq.trans (rd_bind (u1_at h)) (rd_bind (u1_at h1)))
theorem o_59 {c : ByteArray} {pc : Nat} (h : rdB c pc 59) : decode c pc = .ok (.istore_n 0, 1) := dec_of (n := 1) (rd_bind (u1_at h))
theorem o_6 {c : ByteArray} {pc : Nat} (h : rdB c pc 6) : decode c pc = .ok (.iconst 3, 1) := dec_of (n := 1) (rd_bind (u1_at h))
theorem o_60 {c : ByteArray} {pc : Nat} (h : rdB c pc 60) : decode c pc = .ok (.istore_n 1, 1) := dec_of (n := 1) (rd_bind (u1_at h))
theorem o_61 {c : ByteArray} {pc : Nat} (h : rdB c pc 61) : decode c pc = .ok (.istore_n 2, 1) := dec_of (n := 1) (rd_bind (u1_at h))
theorem o_62 {c : ByteArray} {pc : Nat} (h : rdB c pc 62) : decode c pc = .ok (.istore_n 3, 1) := dec_of (n := 1) (rd_bind (u1_at h))
theorem o_7 {c : ByteArray} {pc : Nat} (h : rdB c pc 7) : decode c pc = .ok (.iconst 4, 1) := dec_of (n := 1) (rd_bind (u1_at h))
theorem o_76 {c : ByteArray} {pc : Nat} (h : rdB c pc 76) : decode c pc = .ok (.astore_n 1, 1) := dec_of (n := 1) (rd_bind (u1_at h))
theorem o_77 {c : ByteArray} {pc : Nat} (h : rdB c pc 77) : decode c pc = .ok (.astore_n 2, 1) := dec_of (n := 1) (rd_bind (u1_at h))
theorem o_78 {c : ByteArray} {pc : Nat} (h : rdB c pc 78) : decode c pc = .ok (.astore_n 3, 1) := dec_of (n := 1) (rd_bind (u1_at h))
theorem o_79 {c : ByteArray} {pc : Nat} (h : rdB c pc 79) : decode c pc = .ok (.iastore, 1) := dec_of (n := 1) (rd_bind (u1_at h))
theorem o_8 {c : ByteArray} {pc : Nat} (h : rdB c pc 8) : decode c pc = .ok (.iconst 5, 1) := dec_of (n := 1) (rd_bind (u1_at h))
theorem o_80 {c : ByteArray} {pc : Nat} (h : rdB c pc 80) : decode c pc = .ok (.lastore, 1) := dec_of (n := 1) (rd_bind (u1_at h))
theorem o_87 {c : ByteArray} {pc : Nat} (h : rdB c pc 87) : decode c pc = .ok (.pop, 1) := dec_of (n := 1) (rd_bind (u1_at h))
theorem o_88 {c : ByteArray} {pc : Nat} (h : rdB c pc 88) : decode c pc = .ok (.pop2, 1) := dec_of (n := 1) (rd_bind (u1_at h))
theorem o_89 {c : ByteArray} {pc : Nat} (h : rdB c pc 89) : decode c pc = .ok (.dup, 1) := dec_of (n := 1) (rd_bind (u1_at h))
theorem o_9 {c : ByteArray} {pc : Nat} (h : rdB c pc 9) : decode c pc = .ok (.lconst 0, 1) := dec_of (n := 1) (rd_bind (u1_at h))
theorem o_90 {c : ByteArray} {pc : Nat} (h : rdB c pc 90) : decode c pc = .ok (.dup_x1, 1) := dec_of (n := 1) (rd_bind (u1_at h))
theorem o_91 {c : ByteArray} {pc : Nat} (h : rdB c pc 91) : decode c pc = .ok (.dup_x2, 1) := dec_of (n := 1) (rd_bind (u1_at h))
theorem o_92 {c : ByteArray} {pc : Nat} (h : rdB c pc 92) : decode c pc = .ok (.dup2, 1) := dec_of (n := 1) (rd_bind (u1_at h))
theorem o_96 {c : ByteArray} {pc : Nat} (h : rdB c pc 96) : decode c pc = .ok (.iadd, 1) := dec_of (n := 1) (rd_bind (u1_at h))
theorem o_97 {c : ByteArray} {pc : Nat} (h : rdB c pc 97) : decode c pc = .ok (.ladd, 1) := dec_of (n := 1) (rd_bind (u1_at h))
