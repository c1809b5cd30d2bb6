section
-- ===== PART A: goes FIRST, ahead of the names: the tables' words, and 'selects' of the private methods out of them =====
/-- a private method of a class that the tables say can be made, by its rows of tables_1 -/
def lw_okq (q : MethodName × Nat) : Prop := (q.1.cls ≠ "java/lang/invoke/MethodHandle" ∧ q.1.cls ≠ "java/lang/invoke/VarHandle") ∧ Cond.instantiable q.1.cls q.2 ∈ tables_1 ∧ Cond.privateMethod q.1 ∈ tables_1 ∧ Cond.instanceMethod q.1 ∈ tables_1
theorem lw_p0 : lw_okq (⟨"OneHeavyLoad", "refuse", "(I)I"⟩, 9) := ⟨⟨by decide +kernel, by decide +kernel⟩, List.mem_of_getElem? (i := 17) (by decide +kernel), List.mem_of_getElem? (i := 232) (by decide +kernel), List.mem_of_getElem? (i := 233) (by decide +kernel)⟩
theorem lw_p1 : lw_okq (⟨"OneHeavyLoad", "whyNoRow", "(I)I"⟩, 9) := ⟨⟨by decide +kernel, by decide +kernel⟩, List.mem_of_getElem? (i := 17) (by decide +kernel), List.mem_of_getElem? (i := 244) (by decide +kernel), List.mem_of_getElem? (i := 245) (by decide +kernel)⟩
theorem lw_p2 : lw_okq (⟨"OneHeavyLoad", "isBridge", "(I)Z"⟩, 9) := ⟨⟨by decide +kernel, by decide +kernel⟩, List.mem_of_getElem? (i := 17) (by decide +kernel), List.mem_of_getElem? (i := 302) (by decide +kernel), List.mem_of_getElem? (i := 303) (by decide +kernel)⟩
theorem lw_p3 : lw_okq (⟨"OneHeavyLoad", "spoken", "(II)I"⟩, 9) := ⟨⟨by decide +kernel, by decide +kernel⟩, List.mem_of_getElem? (i := 17) (by decide +kernel), List.mem_of_getElem? (i := 324) (by decide +kernel), List.mem_of_getElem? (i := 325) (by decide +kernel)⟩
theorem lw_p4 : lw_okq (⟨"OneHeavyLoad$Land", "believed", "(II)I"⟩, 8) := ⟨⟨by decide +kernel, by decide +kernel⟩, List.mem_of_getElem? (i := 25) (by decide +kernel), List.mem_of_getElem? (i := 333) (by decide +kernel), List.mem_of_getElem? (i := 334) (by decide +kernel)⟩
theorem lw_p5 : lw_okq (⟨"OneHeavyLoad", "isRoad", "(I)Z"⟩, 9) := ⟨⟨by decide +kernel, by decide +kernel⟩, List.mem_of_getElem? (i := 17) (by decide +kernel), List.mem_of_getElem? (i := 364) (by decide +kernel), List.mem_of_getElem? (i := 365) (by decide +kernel)⟩
theorem lw_p6 : lw_okq (⟨"OneHeavyLoad$Reader", "readStatement", "()V"⟩, 4) := ⟨⟨by decide +kernel, by decide +kernel⟩, List.mem_of_getElem? (i := 174) (by decide +kernel), List.mem_of_getElem? (i := 448) (by decide +kernel), List.mem_of_getElem? (i := 449) (by decide +kernel)⟩
theorem lw_p7 : lw_okq (⟨"OneHeavyLoad$Reader", "readRoad", "()V"⟩, 4) := ⟨⟨by decide +kernel, by decide +kernel⟩, List.mem_of_getElem? (i := 174) (by decide +kernel), List.mem_of_getElem? (i := 505) (by decide +kernel), List.mem_of_getElem? (i := 506) (by decide +kernel)⟩
theorem lw_p8 : lw_okq (⟨"OneHeavyLoad$Reader", "enter", "(I)V"⟩, 4) := ⟨⟨by decide +kernel, by decide +kernel⟩, List.mem_of_getElem? (i := 174) (by decide +kernel), List.mem_of_getElem? (i := 509) (by decide +kernel), List.mem_of_getElem? (i := 510) (by decide +kernel)⟩
theorem lw_p9 : lw_okq (⟨"OneHeavyLoad$Reader", "number", "(Ljava/lang/String;II)I"⟩, 4) := ⟨⟨by decide +kernel, by decide +kernel⟩, List.mem_of_getElem? (i := 174) (by decide +kernel), List.mem_of_getElem? (i := 535) (by decide +kernel), List.mem_of_getElem? (i := 536) (by decide +kernel)⟩
theorem lw_p10 : lw_okq (⟨"OneHeavyLoad$Reader", "numberIfTold", "(Ljava/lang/String;III)I"⟩, 4) := ⟨⟨by decide +kernel, by decide +kernel⟩, List.mem_of_getElem? (i := 174) (by decide +kernel), List.mem_of_getElem? (i := 545) (by decide +kernel), List.mem_of_getElem? (i := 546) (by decide +kernel)⟩
theorem lw_p11 : lw_okq (⟨"OneHeavyLoad$Reader", "readBridge", "()V"⟩, 4) := ⟨⟨by decide +kernel, by decide +kernel⟩, List.mem_of_getElem? (i := 174) (by decide +kernel), List.mem_of_getElem? (i := 558) (by decide +kernel), List.mem_of_getElem? (i := 559) (by decide +kernel)⟩
theorem lw_p12 : lw_okq (⟨"OneHeavyLoad$Reader", "readWaggon", "()V"⟩, 4) := ⟨⟨by decide +kernel, by decide +kernel⟩, List.mem_of_getElem? (i := 174) (by decide +kernel), List.mem_of_getElem? (i := 570) (by decide +kernel), List.mem_of_getElem? (i := 571) (by decide +kernel)⟩
theorem lw_p13 : lw_okq (⟨"OneHeavyLoad$Reader", "readPart", "()V"⟩, 4) := ⟨⟨by decide +kernel, by decide +kernel⟩, List.mem_of_getElem? (i := 174) (by decide +kernel), List.mem_of_getElem? (i := 578) (by decide +kernel), List.mem_of_getElem? (i := 579) (by decide +kernel)⟩
theorem lw_p14 : lw_okq (⟨"OneHeavyLoad$Reader", "readSetting", "(I)V"⟩, 4) := ⟨⟨by decide +kernel, by decide +kernel⟩, List.mem_of_getElem? (i := 174) (by decide +kernel), List.mem_of_getElem? (i := 584) (by decide +kernel), List.mem_of_getElem? (i := 585) (by decide +kernel)⟩
theorem lw_p15 : lw_okq (⟨"OneHeavyLoad", "isWaggon", "(I)Z"⟩, 9) := ⟨⟨by decide +kernel, by decide +kernel⟩, List.mem_of_getElem? (i := 17) (by decide +kernel), List.mem_of_getElem? (i := 615) (by decide +kernel), List.mem_of_getElem? (i := 616) (by decide +kernel)⟩
def lw_privs_1 : List (MethodName × Nat) := [(⟨"OneHeavyLoad", "refuse", "(I)I"⟩, 9), (⟨"OneHeavyLoad", "whyNoRow", "(I)I"⟩, 9), (⟨"OneHeavyLoad", "isBridge", "(I)Z"⟩, 9), (⟨"OneHeavyLoad", "spoken", "(II)I"⟩, 9), (⟨"OneHeavyLoad$Land", "believed", "(II)I"⟩, 8), (⟨"OneHeavyLoad", "isRoad", "(I)Z"⟩, 9), (⟨"OneHeavyLoad$Reader", "readStatement", "()V"⟩, 4), (⟨"OneHeavyLoad$Reader", "readRoad", "()V"⟩, 4), (⟨"OneHeavyLoad$Reader", "enter", "(I)V"⟩, 4), (⟨"OneHeavyLoad$Reader", "number", "(Ljava/lang/String;II)I"⟩, 4), (⟨"OneHeavyLoad$Reader", "numberIfTold", "(Ljava/lang/String;III)I"⟩, 4), (⟨"OneHeavyLoad$Reader", "readBridge", "()V"⟩, 4), (⟨"OneHeavyLoad$Reader", "readWaggon", "()V"⟩, 4), (⟨"OneHeavyLoad$Reader", "readPart", "()V"⟩, 4), (⟨"OneHeavyLoad$Reader", "readSetting", "(I)V"⟩, 4), (⟨"OneHeavyLoad", "isWaggon", "(I)Z"⟩, 9)]
theorem lw_r1 : ∀ q ∈ lw_privs_1, lw_okq q := List.forall_mem_cons.mpr ⟨lw_p0, List.forall_mem_cons.mpr ⟨lw_p1, List.forall_mem_cons.mpr ⟨lw_p2, List.forall_mem_cons.mpr ⟨lw_p3, List.forall_mem_cons.mpr ⟨lw_p4, List.forall_mem_cons.mpr ⟨lw_p5, List.forall_mem_cons.mpr ⟨lw_p6, List.forall_mem_cons.mpr ⟨lw_p7, List.forall_mem_cons.mpr ⟨lw_p8, List.forall_mem_cons.mpr ⟨lw_p9, List.forall_mem_cons.mpr ⟨lw_p10, List.forall_mem_cons.mpr ⟨lw_p11, List.forall_mem_cons.mpr ⟨lw_p12, List.forall_mem_cons.mpr ⟨lw_p13, List.forall_mem_cons.mpr ⟨lw_p14, List.forall_mem_cons.mpr ⟨lw_p15, fun _ h => absurd h List.not_mem_nil⟩⟩⟩⟩⟩⟩⟩⟩⟩⟩⟩⟩⟩⟩⟩⟩
theorem lw_p16 : lw_okq (⟨"OneHeavyLoad", "isPack", "(II)Z"⟩, 9) := ⟨⟨by decide +kernel, by decide +kernel⟩, List.mem_of_getElem? (i := 17) (by decide +kernel), List.mem_of_getElem? (i := 631) (by decide +kernel), List.mem_of_getElem? (i := 632) (by decide +kernel)⟩
theorem lw_p17 : lw_okq (⟨"OneHeavyLoad", "isJourney", "(IIII)Z"⟩, 9) := ⟨⟨by decide +kernel, by decide +kernel⟩, List.mem_of_getElem? (i := 17) (by decide +kernel), List.mem_of_getElem? (i := 712) (by decide +kernel), List.mem_of_getElem? (i := 713) (by decide +kernel)⟩
theorem lw_p18 : lw_okq (⟨"OneHeavyLoad$Ways", "priceByCoin", "(I)V"⟩, 7) := ⟨⟨by decide +kernel, by decide +kernel⟩, List.mem_of_getElem? (i := 69) (by decide +kernel), List.mem_of_getElem? (i := 721) (by decide +kernel), List.mem_of_getElem? (i := 722) (by decide +kernel)⟩
theorem lw_p19 : lw_okq (⟨"OneHeavyLoad$Ways", "spread", "(I)V"⟩, 7) := ⟨⟨by decide +kernel, by decide +kernel⟩, List.mem_of_getElem? (i := 69) (by decide +kernel), List.mem_of_getElem? (i := 726) (by decide +kernel), List.mem_of_getElem? (i := 727) (by decide +kernel)⟩
theorem lw_p20 : lw_okq (⟨"OneHeavyLoad$Ways", "shorten", "(I)Z"⟩, 7) := ⟨⟨by decide +kernel, by decide +kernel⟩, List.mem_of_getElem? (i := 69) (by decide +kernel), List.mem_of_getElem? (i := 731) (by decide +kernel), List.mem_of_getElem? (i := 732) (by decide +kernel)⟩
theorem lw_p21 : lw_okq (⟨"OneHeavyLoad", "orStuck", "(I)I"⟩, 9) := ⟨⟨by decide +kernel, by decide +kernel⟩, List.mem_of_getElem? (i := 17) (by decide +kernel), List.mem_of_getElem? (i := 735) (by decide +kernel), List.mem_of_getElem? (i := 736) (by decide +kernel)⟩
theorem lw_p22 : lw_okq (⟨"OneHeavyLoad", "findBest", "(II)V"⟩, 9) := ⟨⟨by decide +kernel, by decide +kernel⟩, List.mem_of_getElem? (i := 17) (by decide +kernel), List.mem_of_getElem? (i := 757) (by decide +kernel), List.mem_of_getElem? (i := 758) (by decide +kernel)⟩
theorem lw_p23 : lw_okq (⟨"OneHeavyLoad", "whyNotTold", "(IIIII)I"⟩, 9) := ⟨⟨by decide +kernel, by decide +kernel⟩, List.mem_of_getElem? (i := 17) (by decide +kernel), List.mem_of_getElem? (i := 766) (by decide +kernel), List.mem_of_getElem? (i := 767) (by decide +kernel)⟩
theorem lw_p24 : lw_okq (⟨"OneHeavyLoad", "firstWrong", "(III)I"⟩, 9) := ⟨⟨by decide +kernel, by decide +kernel⟩, List.mem_of_getElem? (i := 17) (by decide +kernel), List.mem_of_getElem? (i := 770) (by decide +kernel), List.mem_of_getElem? (i := 771) (by decide +kernel)⟩
theorem lw_p25 : lw_okq (⟨"OneHeavyLoad$Ways", "otherEnd", "(II)I"⟩, 7) := ⟨⟨by decide +kernel, by decide +kernel⟩, List.mem_of_getElem? (i := 69) (by decide +kernel), List.mem_of_getElem? (i := 782) (by decide +kernel), List.mem_of_getElem? (i := 783) (by decide +kernel)⟩
theorem lw_p26 : lw_okq (⟨"OneHeavyLoad", "coinIfFallen", "(IIIII)I"⟩, 9) := ⟨⟨by decide +kernel, by decide +kernel⟩, List.mem_of_getElem? (i := 17) (by decide +kernel), List.mem_of_getElem? (i := 808) (by decide +kernel), List.mem_of_getElem? (i := 809) (by decide +kernel)⟩
theorem lw_p27 : lw_okq (⟨"OneHeavyLoad", "heaviest", "(III)I"⟩, 9) := ⟨⟨by decide +kernel, by decide +kernel⟩, List.mem_of_getElem? (i := 17) (by decide +kernel), List.mem_of_getElem? (i := 825) (by decide +kernel), List.mem_of_getElem? (i := 826) (by decide +kernel)⟩
theorem lw_p28 : lw_okq (⟨"OneHeavyLoad", "goAlong", "(I)V"⟩, 9) := ⟨⟨by decide +kernel, by decide +kernel⟩, List.mem_of_getElem? (i := 17) (by decide +kernel), List.mem_of_getElem? (i := 856) (by decide +kernel), List.mem_of_getElem? (i := 857) (by decide +kernel)⟩
theorem lw_p29 : lw_okq (⟨"OneHeavyLoadModel", "refuse", "(I)I"⟩, 29) := ⟨⟨by decide +kernel, by decide +kernel⟩, List.mem_of_getElem? (i := 899) (by decide +kernel), List.mem_of_getElem? (i := 1007) (by decide +kernel), List.mem_of_getElem? (i := 1008) (by decide +kernel)⟩
theorem lw_p30 : lw_okq (⟨"OneHeavyLoadModel", "isBridge", "(I)Z"⟩, 29) := ⟨⟨by decide +kernel, by decide +kernel⟩, List.mem_of_getElem? (i := 899) (by decide +kernel), List.mem_of_getElem? (i := 1034) (by decide +kernel), List.mem_of_getElem? (i := 1035) (by decide +kernel)⟩
theorem lw_p31 : lw_okq (⟨"OneHeavyLoadModel", "axleOf", "(I)I"⟩, 29) := ⟨⟨by decide +kernel, by decide +kernel⟩, List.mem_of_getElem? (i := 899) (by decide +kernel), List.mem_of_getElem? (i := 1046) (by decide +kernel), List.mem_of_getElem? (i := 1047) (by decide +kernel)⟩
def lw_privs_2 : List (MethodName × Nat) := [(⟨"OneHeavyLoad", "isPack", "(II)Z"⟩, 9), (⟨"OneHeavyLoad", "isJourney", "(IIII)Z"⟩, 9), (⟨"OneHeavyLoad$Ways", "priceByCoin", "(I)V"⟩, 7), (⟨"OneHeavyLoad$Ways", "spread", "(I)V"⟩, 7), (⟨"OneHeavyLoad$Ways", "shorten", "(I)Z"⟩, 7), (⟨"OneHeavyLoad", "orStuck", "(I)I"⟩, 9), (⟨"OneHeavyLoad", "findBest", "(II)V"⟩, 9), (⟨"OneHeavyLoad", "whyNotTold", "(IIIII)I"⟩, 9), (⟨"OneHeavyLoad", "firstWrong", "(III)I"⟩, 9), (⟨"OneHeavyLoad$Ways", "otherEnd", "(II)I"⟩, 7), (⟨"OneHeavyLoad", "coinIfFallen", "(IIIII)I"⟩, 9), (⟨"OneHeavyLoad", "heaviest", "(III)I"⟩, 9), (⟨"OneHeavyLoad", "goAlong", "(I)V"⟩, 9), (⟨"OneHeavyLoadModel", "refuse", "(I)I"⟩, 29), (⟨"OneHeavyLoadModel", "isBridge", "(I)Z"⟩, 29), (⟨"OneHeavyLoadModel", "axleOf", "(I)I"⟩, 29)]
theorem lw_r2 : ∀ q ∈ lw_privs_2, lw_okq q := List.forall_mem_cons.mpr ⟨lw_p16, List.forall_mem_cons.mpr ⟨lw_p17, List.forall_mem_cons.mpr ⟨lw_p18, List.forall_mem_cons.mpr ⟨lw_p19, List.forall_mem_cons.mpr ⟨lw_p20, List.forall_mem_cons.mpr ⟨lw_p21, List.forall_mem_cons.mpr ⟨lw_p22, List.forall_mem_cons.mpr ⟨lw_p23, List.forall_mem_cons.mpr ⟨lw_p24, List.forall_mem_cons.mpr ⟨lw_p25, List.forall_mem_cons.mpr ⟨lw_p26, List.forall_mem_cons.mpr ⟨lw_p27, List.forall_mem_cons.mpr ⟨lw_p28, List.forall_mem_cons.mpr ⟨lw_p29, List.forall_mem_cons.mpr ⟨lw_p30, List.forall_mem_cons.mpr ⟨lw_p31, fun _ h => absurd h List.not_mem_nil⟩⟩⟩⟩⟩⟩⟩⟩⟩⟩⟩⟩⟩⟩⟩⟩
theorem lw_p32 : lw_okq (⟨"OneHeavyLoadModel", "isNothing", "(I)Z"⟩, 29) := ⟨⟨by decide +kernel, by decide +kernel⟩, List.mem_of_getElem? (i := 899) (by decide +kernel), List.mem_of_getElem? (i := 1050) (by decide +kernel), List.mem_of_getElem? (i := 1051) (by decide +kernel)⟩
theorem lw_p33 : lw_okq (⟨"OneHeavyLoadModel", "isHalf", "(I)Z"⟩, 29) := ⟨⟨by decide +kernel, by decide +kernel⟩, List.mem_of_getElem? (i := 899) (by decide +kernel), List.mem_of_getElem? (i := 1054) (by decide +kernel), List.mem_of_getElem? (i := 1055) (by decide +kernel)⟩
theorem lw_p34 : lw_okq (⟨"OneHeavyLoadModel", "allOf", "(IZ)I"⟩, 29) := ⟨⟨by decide +kernel, by decide +kernel⟩, List.mem_of_getElem? (i := 899) (by decide +kernel), List.mem_of_getElem? (i := 1058) (by decide +kernel), List.mem_of_getElem? (i := 1059) (by decide +kernel)⟩
theorem lw_p35 : lw_okq (⟨"OneHeavyLoadModel", "newRoad", "(II)V"⟩, 29) := ⟨⟨by decide +kernel, by decide +kernel⟩, List.mem_of_getElem? (i := 899) (by decide +kernel), List.mem_of_getElem? (i := 1073) (by decide +kernel), List.mem_of_getElem? (i := 1074) (by decide +kernel)⟩
theorem lw_p36 : lw_okq (⟨"OneHeavyLoadModel", "isRoad", "(I)Z"⟩, 29) := ⟨⟨by decide +kernel, by decide +kernel⟩, List.mem_of_getElem? (i := 899) (by decide +kernel), List.mem_of_getElem? (i := 1081) (by decide +kernel), List.mem_of_getElem? (i := 1082) (by decide +kernel)⟩
theorem lw_p37 : lw_okq (⟨"OneHeavyLoadModel", "newBridge", "()V"⟩, 29) := ⟨⟨by decide +kernel, by decide +kernel⟩, List.mem_of_getElem? (i := 899) (by decide +kernel), List.mem_of_getElem? (i := 1086) (by decide +kernel), List.mem_of_getElem? (i := 1087) (by decide +kernel)⟩
theorem lw_p38 : lw_okq (⟨"OneHeavyLoadModel", "read", "()Z"⟩, 29) := ⟨⟨by decide +kernel, by decide +kernel⟩, List.mem_of_getElem? (i := 899) (by decide +kernel), List.mem_of_getElem? (i := 1129) (by decide +kernel), List.mem_of_getElem? (i := 1130) (by decide +kernel)⟩
theorem lw_p39 : lw_okq (⟨"OneHeavyLoadModel", "look", "()V"⟩, 29) := ⟨⟨by decide +kernel, by decide +kernel⟩, List.mem_of_getElem? (i := 899) (by decide +kernel), List.mem_of_getElem? (i := 1133) (by decide +kernel), List.mem_of_getElem? (i := 1134) (by decide +kernel)⟩
theorem lw_p40 : lw_okq (⟨"OneHeavyLoadModel", "statement", "()Z"⟩, 29) := ⟨⟨by decide +kernel, by decide +kernel⟩, List.mem_of_getElem? (i := 899) (by decide +kernel), List.mem_of_getElem? (i := 1146) (by decide +kernel), List.mem_of_getElem? (i := 1147) (by decide +kernel)⟩
theorem lw_p41 : lw_okq (⟨"OneHeavyLoadModel", "isWord", "(Ljava/lang/String;)Z"⟩, 29) := ⟨⟨by decide +kernel, by decide +kernel⟩, List.mem_of_getElem? (i := 899) (by decide +kernel), List.mem_of_getElem? (i := 1151) (by decide +kernel), List.mem_of_getElem? (i := 1152) (by decide +kernel)⟩
theorem lw_p42 : lw_okq (⟨"OneHeavyLoadModel", "roadTold", "([I)Z"⟩, 29) := ⟨⟨by decide +kernel, by decide +kernel⟩, List.mem_of_getElem? (i := 899) (by decide +kernel), List.mem_of_getElem? (i := 1157) (by decide +kernel), List.mem_of_getElem? (i := 1158) (by decide +kernel)⟩
theorem lw_p43 : lw_okq (⟨"OneHeavyLoadModel", "number", "([IIII)Z"⟩, 29) := ⟨⟨by decide +kernel, by decide +kernel⟩, List.mem_of_getElem? (i := 899) (by decide +kernel), List.mem_of_getElem? (i := 1161) (by decide +kernel), List.mem_of_getElem? (i := 1162) (by decide +kernel)⟩
theorem lw_p44 : lw_okq (⟨"OneHeavyLoadModel", "wrong", "()Z"⟩, 29) := ⟨⟨by decide +kernel, by decide +kernel⟩, List.mem_of_getElem? (i := 899) (by decide +kernel), List.mem_of_getElem? (i := 1165) (by decide +kernel), List.mem_of_getElem? (i := 1166) (by decide +kernel)⟩
theorem lw_p45 : lw_okq (⟨"OneHeavyLoadModel", "told", "(Ljava/lang/String;[IIII)Z"⟩, 29) := ⟨⟨by decide +kernel, by decide +kernel⟩, List.mem_of_getElem? (i := 899) (by decide +kernel), List.mem_of_getElem? (i := 1170) (by decide +kernel), List.mem_of_getElem? (i := 1171) (by decide +kernel)⟩
theorem lw_p46 : lw_okq (⟨"OneHeavyLoadModel", "perhaps", "(Ljava/lang/String;[IIII)Z"⟩, 29) := ⟨⟨by decide +kernel, by decide +kernel⟩, List.mem_of_getElem? (i := 899) (by decide +kernel), List.mem_of_getElem? (i := 1175) (by decide +kernel), List.mem_of_getElem? (i := 1176) (by decide +kernel)⟩
theorem lw_p47 : lw_okq (⟨"OneHeavyLoadModel", "bridgeTold", "([I)Z"⟩, 29) := ⟨⟨by decide +kernel, by decide +kernel⟩, List.mem_of_getElem? (i := 899) (by decide +kernel), List.mem_of_getElem? (i := 1182) (by decide +kernel), List.mem_of_getElem? (i := 1183) (by decide +kernel)⟩
def lw_privs_3 : List (MethodName × Nat) := [(⟨"OneHeavyLoadModel", "isNothing", "(I)Z"⟩, 29), (⟨"OneHeavyLoadModel", "isHalf", "(I)Z"⟩, 29), (⟨"OneHeavyLoadModel", "allOf", "(IZ)I"⟩, 29), (⟨"OneHeavyLoadModel", "newRoad", "(II)V"⟩, 29), (⟨"OneHeavyLoadModel", "isRoad", "(I)Z"⟩, 29), (⟨"OneHeavyLoadModel", "newBridge", "()V"⟩, 29), (⟨"OneHeavyLoadModel", "read", "()Z"⟩, 29), (⟨"OneHeavyLoadModel", "look", "()V"⟩, 29), (⟨"OneHeavyLoadModel", "statement", "()Z"⟩, 29), (⟨"OneHeavyLoadModel", "isWord", "(Ljava/lang/String;)Z"⟩, 29), (⟨"OneHeavyLoadModel", "roadTold", "([I)Z"⟩, 29), (⟨"OneHeavyLoadModel", "number", "([IIII)Z"⟩, 29), (⟨"OneHeavyLoadModel", "wrong", "()Z"⟩, 29), (⟨"OneHeavyLoadModel", "told", "(Ljava/lang/String;[IIII)Z"⟩, 29), (⟨"OneHeavyLoadModel", "perhaps", "(Ljava/lang/String;[IIII)Z"⟩, 29), (⟨"OneHeavyLoadModel", "bridgeTold", "([I)Z"⟩, 29)]
theorem lw_r3 : ∀ q ∈ lw_privs_3, lw_okq q := List.forall_mem_cons.mpr ⟨lw_p32, List.forall_mem_cons.mpr ⟨lw_p33, List.forall_mem_cons.mpr ⟨lw_p34, List.forall_mem_cons.mpr ⟨lw_p35, List.forall_mem_cons.mpr ⟨lw_p36, List.forall_mem_cons.mpr ⟨lw_p37, List.forall_mem_cons.mpr ⟨lw_p38, List.forall_mem_cons.mpr ⟨lw_p39, List.forall_mem_cons.mpr ⟨lw_p40, List.forall_mem_cons.mpr ⟨lw_p41, List.forall_mem_cons.mpr ⟨lw_p42, List.forall_mem_cons.mpr ⟨lw_p43, List.forall_mem_cons.mpr ⟨lw_p44, List.forall_mem_cons.mpr ⟨lw_p45, List.forall_mem_cons.mpr ⟨lw_p46, List.forall_mem_cons.mpr ⟨lw_p47, fun _ h => absurd h List.not_mem_nil⟩⟩⟩⟩⟩⟩⟩⟩⟩⟩⟩⟩⟩⟩⟩⟩
theorem lw_p48 : lw_okq (⟨"OneHeavyLoadModel", "isWaggon", "(I)Z"⟩, 29) := ⟨⟨by decide +kernel, by decide +kernel⟩, List.mem_of_getElem? (i := 899) (by decide +kernel), List.mem_of_getElem? (i := 1214) (by decide +kernel), List.mem_of_getElem? (i := 1215) (by decide +kernel)⟩
theorem lw_p49 : lw_okq (⟨"OneHeavyLoadModel", "lengthOf", "(I)I"⟩, 29) := ⟨⟨by decide +kernel, by decide +kernel⟩, List.mem_of_getElem? (i := 899) (by decide +kernel), List.mem_of_getElem? (i := 1218) (by decide +kernel), List.mem_of_getElem? (i := 1219) (by decide +kernel)⟩
theorem lw_p50 : lw_okq (⟨"OneHeavyLoadModel", "isPack", "(II)Z"⟩, 29) := ⟨⟨by decide +kernel, by decide +kernel⟩, List.mem_of_getElem? (i := 899) (by decide +kernel), List.mem_of_getElem? (i := 1226) (by decide +kernel), List.mem_of_getElem? (i := 1227) (by decide +kernel)⟩
theorem lw_p51 : lw_okq (⟨"OneHeavyLoadModel", "axleLoad", "(II)I"⟩, 29) := ⟨⟨by decide +kernel, by decide +kernel⟩, List.mem_of_getElem? (i := 899) (by decide +kernel), List.mem_of_getElem? (i := 1230) (by decide +kernel), List.mem_of_getElem? (i := 1231) (by decide +kernel)⟩
theorem lw_p52 : lw_okq (⟨"OneHeavyLoadModel", "strainOf", "(III)I"⟩, 29) := ⟨⟨by decide +kernel, by decide +kernel⟩, List.mem_of_getElem? (i := 899) (by decide +kernel), List.mem_of_getElem? (i := 1238) (by decide +kernel), List.mem_of_getElem? (i := 1239) (by decide +kernel)⟩
theorem lw_p53 : lw_okq (⟨"OneHeavyLoadModel", "needsOf", "(III)I"⟩, 29) := ⟨⟨by decide +kernel, by decide +kernel⟩, List.mem_of_getElem? (i := 899) (by decide +kernel), List.mem_of_getElem? (i := 1246) (by decide +kernel), List.mem_of_getElem? (i := 1247) (by decide +kernel)⟩
theorem lw_p54 : lw_okq (⟨"OneHeavyLoadModel", "goesOf", "(III)Z"⟩, 29) := ⟨⟨by decide +kernel, by decide +kernel⟩, List.mem_of_getElem? (i := 899) (by decide +kernel), List.mem_of_getElem? (i := 1254) (by decide +kernel), List.mem_of_getElem? (i := 1255) (by decide +kernel)⟩
theorem lw_p55 : lw_okq (⟨"OneHeavyLoadModel", "enginesOf", "(III)I"⟩, 29) := ⟨⟨by decide +kernel, by decide +kernel⟩, List.mem_of_getElem? (i := 899) (by decide +kernel), List.mem_of_getElem? (i := 1258) (by decide +kernel), List.mem_of_getElem? (i := 1259) (by decide +kernel)⟩
theorem lw_p56 : lw_okq (⟨"OneHeavyLoadModel", "coinOf", "(IIII)I"⟩, 29) := ⟨⟨by decide +kernel, by decide +kernel⟩, List.mem_of_getElem? (i := 899) (by decide +kernel), List.mem_of_getElem? (i := 1262) (by decide +kernel), List.mem_of_getElem? (i := 1263) (by decide +kernel)⟩
theorem lw_p57 : lw_okq (⟨"OneHeavyLoadModel", "propsOf", "(IIIZ)I"⟩, 29) := ⟨⟨by decide +kernel, by decide +kernel⟩, List.mem_of_getElem? (i := 899) (by decide +kernel), List.mem_of_getElem? (i := 1266) (by decide +kernel), List.mem_of_getElem? (i := 1267) (by decide +kernel)⟩
theorem lw_p58 : lw_okq (⟨"OneHeavyLoadModel", "daysOf", "(III)I"⟩, 29) := ⟨⟨by decide +kernel, by decide +kernel⟩, List.mem_of_getElem? (i := 899) (by decide +kernel), List.mem_of_getElem? (i := 1270) (by decide +kernel), List.mem_of_getElem? (i := 1271) (by decide +kernel)⟩
theorem lw_p59 : lw_okq (⟨"OneHeavyLoadModel", "cheapestOf", "(IIIII)I"⟩, 29) := ⟨⟨by decide +kernel, by decide +kernel⟩, List.mem_of_getElem? (i := 899) (by decide +kernel), List.mem_of_getElem? (i := 1283) (by decide +kernel), List.mem_of_getElem? (i := 1284) (by decide +kernel)⟩
theorem lw_p60 : lw_okq (⟨"OneHeavyLoadModel", "findFar", "(IIII)V"⟩, 29) := ⟨⟨by decide +kernel, by decide +kernel⟩, List.mem_of_getElem? (i := 899) (by decide +kernel), List.mem_of_getElem? (i := 1287) (by decide +kernel), List.mem_of_getElem? (i := 1288) (by decide +kernel)⟩
theorem lw_p61 : lw_okq (⟨"OneHeavyLoadModel", "partsCoin", "(I)I"⟩, 29) := ⟨⟨by decide +kernel, by decide +kernel⟩, List.mem_of_getElem? (i := 899) (by decide +kernel), List.mem_of_getElem? (i := 1292) (by decide +kernel), List.mem_of_getElem? (i := 1293) (by decide +kernel)⟩
theorem lw_p62 : lw_okq (⟨"OneHeavyLoadModel", "noWay", "(IIIII)I"⟩, 29) := ⟨⟨by decide +kernel, by decide +kernel⟩, List.mem_of_getElem? (i := 899) (by decide +kernel), List.mem_of_getElem? (i := 1309) (by decide +kernel), List.mem_of_getElem? (i := 1310) (by decide +kernel)⟩
theorem lw_p63 : lw_okq (⟨"OneHeavyLoadModel", "firstWrong", "(IIIII)I"⟩, 29) := ⟨⟨by decide +kernel, by decide +kernel⟩, List.mem_of_getElem? (i := 899) (by decide +kernel), List.mem_of_getElem? (i := 1313) (by decide +kernel), List.mem_of_getElem? (i := 1314) (by decide +kernel)⟩
def lw_privs_4 : List (MethodName × Nat) := [(⟨"OneHeavyLoadModel", "isWaggon", "(I)Z"⟩, 29), (⟨"OneHeavyLoadModel", "lengthOf", "(I)I"⟩, 29), (⟨"OneHeavyLoadModel", "isPack", "(II)Z"⟩, 29), (⟨"OneHeavyLoadModel", "axleLoad", "(II)I"⟩, 29), (⟨"OneHeavyLoadModel", "strainOf", "(III)I"⟩, 29), (⟨"OneHeavyLoadModel", "needsOf", "(III)I"⟩, 29), (⟨"OneHeavyLoadModel", "goesOf", "(III)Z"⟩, 29), (⟨"OneHeavyLoadModel", "enginesOf", "(III)I"⟩, 29), (⟨"OneHeavyLoadModel", "coinOf", "(IIII)I"⟩, 29), (⟨"OneHeavyLoadModel", "propsOf", "(IIIZ)I"⟩, 29), (⟨"OneHeavyLoadModel", "daysOf", "(III)I"⟩, 29), (⟨"OneHeavyLoadModel", "cheapestOf", "(IIIII)I"⟩, 29), (⟨"OneHeavyLoadModel", "findFar", "(IIII)V"⟩, 29), (⟨"OneHeavyLoadModel", "partsCoin", "(I)I"⟩, 29), (⟨"OneHeavyLoadModel", "noWay", "(IIIII)I"⟩, 29), (⟨"OneHeavyLoadModel", "firstWrong", "(IIIII)I"⟩, 29)]
theorem lw_r4 : ∀ q ∈ lw_privs_4, lw_okq q := List.forall_mem_cons.mpr ⟨lw_p48, List.forall_mem_cons.mpr ⟨lw_p49, List.forall_mem_cons.mpr ⟨lw_p50, List.forall_mem_cons.mpr ⟨lw_p51, List.forall_mem_cons.mpr ⟨lw_p52, List.forall_mem_cons.mpr ⟨lw_p53, List.forall_mem_cons.mpr ⟨lw_p54, List.forall_mem_cons.mpr ⟨lw_p55, List.forall_mem_cons.mpr ⟨lw_p56, List.forall_mem_cons.mpr ⟨lw_p57, List.forall_mem_cons.mpr ⟨lw_p58, List.forall_mem_cons.mpr ⟨lw_p59, List.forall_mem_cons.mpr ⟨lw_p60, List.forall_mem_cons.mpr ⟨lw_p61, List.forall_mem_cons.mpr ⟨lw_p62, List.forall_mem_cons.mpr ⟨lw_p63, fun _ h => absurd h List.not_mem_nil⟩⟩⟩⟩⟩⟩⟩⟩⟩⟩⟩⟩⟩⟩⟩⟩
theorem lw_p64 : lw_okq (⟨"OneHeavyLoadModel", "takeFrom", "(LOneHeavyLoadModel;)V"⟩, 29) := ⟨⟨by decide +kernel, by decide +kernel⟩, List.mem_of_getElem? (i := 899) (by decide +kernel), List.mem_of_getElem? (i := 1363) (by decide +kernel), List.mem_of_getElem? (i := 1364) (by decide +kernel)⟩
def lw_privs_5 : List (MethodName × Nat) := [(⟨"OneHeavyLoadModel", "takeFrom", "(LOneHeavyLoadModel;)V"⟩, 29)]
theorem lw_r5 : ∀ q ∈ lw_privs_5, lw_okq q := List.forall_mem_cons.mpr ⟨lw_p64, fun _ h => absurd h List.not_mem_nil⟩
def lw_privs : List (MethodName × Nat) := lw_privs_1 ++ (lw_privs_2 ++ (lw_privs_3 ++ (lw_privs_4 ++ (lw_privs_5))))
def lw_tbl : List Cond := k2_sels lw_privs ++ tables_1
theorem lw_privs_ok : ∀ q ∈ lw_privs, lw_okq q := by
  show ∀ q ∈ lw_privs_1 ++ (lw_privs_2 ++ (lw_privs_3 ++ (lw_privs_4 ++ (lw_privs_5)))), lw_okq q
  exact List.forall_mem_append.mpr ⟨lw_r1, List.forall_mem_append.mpr ⟨lw_r2, List.forall_mem_append.mpr ⟨lw_r3, List.forall_mem_append.mpr ⟨lw_r4, lw_r5⟩⟩⟩⟩
end
section
def RX0 : String := "OneHeavyLoad$Land"
def TX0 : u_T := fun k => match k with
  | 0 => ("OneHeavyLoad$Land", "counts", "[I", true)
  | 1 => ("OneHeavyLoad$Land", "roads", "[I", true)
  | 2 => ("OneHeavyLoad$Land", "bridges", "[I", true)
  | 3 => ("OneHeavyLoad$Land", "waggons", "[I", true)
  | 4 => ("OneHeavyLoad$Land", "parts", "[I", true)
  | 5 => ("OneHeavyLoad$Land", "settings", "[I", true)
  | 6 => ("OneHeavyLoad$Land", "trip", "[I", true)
  | _ => ("OneHeavyLoad$Land", "onWay", "Z", false)
def tyX0 : Nat → FieldType := fun k => match k with
  | 0 => .array .int
  | 1 => .array .int
  | 2 => .array .int
  | 3 => .array .int
  | 4 => .array .int
  | 5 => .array .int
  | 6 => .array .int
  | _ => .boolean
abbrev wsX00 : List Cond := u_ws RX0 TX0 8
theorem nmX0 : ∀ a, a < 8 → ∀ b, b < 8 → a ≠ b → (TX0 a).2.1 ≠ (TX0 b).2.1 := by decide +kernel
theorem tyX0_ok : ∀ k, k < 8 → parseFieldDescriptor (TX0 k).2.2.1 = some (tyX0 k) := by decide +kernel
abbrev cX0_init : ByteArray := prog_2_method_1_code
def yX0_init : MethodName := ⟨RX0, "<init>", "()V"⟩
abbrev cX0_become : ByteArray := prog_2_method_2_code
def yX0_become : MethodName := ⟨RX0, "become", "(LOneHeavyLoad$Land;)V"⟩
abbrev cX0_hasRoom : ByteArray := prog_2_method_3_code
def yX0_hasRoom : MethodName := ⟨RX0, "hasRoom", "(I)Z"⟩
abbrev cX0_addRoad : ByteArray := prog_2_method_4_code
def yX0_addRoad : MethodName := ⟨RX0, "addRoad", "(IIIIII)I"⟩
abbrev cX0_addBridge : ByteArray := prog_2_method_5_code
def yX0_addBridge : MethodName := ⟨RX0, "addBridge", "(IIIII)I"⟩
abbrev cX0_putProp : ByteArray := prog_2_method_6_code
def yX0_putProp : MethodName := ⟨RX0, "putProp", "(III)V"⟩
abbrev cX0_addWaggon : ByteArray := prog_2_method_7_code
def yX0_addWaggon : MethodName := ⟨RX0, "addWaggon", "(III)I"⟩
abbrev cX0_addPart : ByteArray := prog_2_method_8_code
def yX0_addPart : MethodName := ⟨RX0, "addPart", "(II)I"⟩
abbrev cX0_ofRoad : ByteArray := prog_2_method_9_code
def yX0_ofRoad : MethodName := ⟨RX0, "ofRoad", "(II)I"⟩
abbrev cX0_ofBridge : ByteArray := prog_2_method_10_code
def yX0_ofBridge : MethodName := ⟨RX0, "ofBridge", "(II)I"⟩
abbrev cX0_putBridgeColumn : ByteArray := prog_2_method_11_code
def yX0_putBridgeColumn : MethodName := ⟨RX0, "putBridgeColumn", "(III)V"⟩
abbrev cX0_ofWaggon : ByteArray := prog_2_method_12_code
def yX0_ofWaggon : MethodName := ⟨RX0, "ofWaggon", "(II)I"⟩
abbrev cX0_countBridges : ByteArray := prog_2_method_13_code
def yX0_countBridges : MethodName := ⟨RX0, "countBridges", "(I)I"⟩
abbrev cX0_waggonLength : ByteArray := prog_2_method_14_code
def yX0_waggonLength : MethodName := ⟨RX0, "waggonLength", "(I)I"⟩
abbrev cX0_setsOfParts : ByteArray := prog_2_method_15_code
def yX0_setsOfParts : MethodName := ⟨RX0, "setsOfParts", "()I"⟩
abbrev cX0_sumOfParts : ByteArray := prog_2_method_16_code
def yX0_sumOfParts : MethodName := ⟨RX0, "sumOfParts", "(II)I"⟩
abbrev cX0_isPropped : ByteArray := prog_2_method_17_code
def yX0_isPropped : MethodName := ⟨RX0, "isPropped", "(I)Z"⟩
abbrev cX0_mayBeTakenFor : ByteArray := prog_2_method_18_code
def yX0_mayBeTakenFor : MethodName := ⟨RX0, "mayBeTakenFor", "(II)Z"⟩
abbrev cX0_bearsAxle : ByteArray := prog_2_method_19_code
def yX0_bearsAxle : MethodName := ⟨RX0, "bearsAxle", "(I)I"⟩
abbrev cX0_bearsAll : ByteArray := prog_2_method_20_code
def yX0_bearsAll : MethodName := ⟨RX0, "bearsAll", "(IZ)I"⟩
abbrev cX0_believed : ByteArray := prog_2_method_21_code
def yX0_believed : MethodName := ⟨RX0, "believed", "(II)I"⟩
abbrev cX0_startTrip : ByteArray := prog_2_method_22_code
def yX0_startTrip : MethodName := ⟨RX0, "startTrip", "(IIIII)V"⟩
def RX1 : String := "OneHeavyLoad$Pack"
def TX1 : u_T := fun k => match k with
  | 0 => ("OneHeavyLoad$Pack", "axles", "I", false)
  | 1 => ("OneHeavyLoad$Pack", "space", "I", false)
  | 2 => ("OneHeavyLoad$Pack", "fullLength", "I", false)
  | 3 => ("OneHeavyLoad$Pack", "axleLoad", "I", false)
  | _ => ("OneHeavyLoad$Pack", "sentCoin", "I", false)
def tyX1 : Nat → FieldType := fun k => match k with
  | 0 => .int
  | 1 => .int
  | 2 => .int
  | 3 => .int
  | _ => .int
abbrev wsX10 : List Cond := u_ws RX1 TX1 5
theorem nmX1 : ∀ a, a < 5 → ∀ b, b < 5 → a ≠ b → (TX1 a).2.1 ≠ (TX1 b).2.1 := by decide +kernel
theorem tyX1_ok : ∀ k, k < 5 → parseFieldDescriptor (TX1 k).2.2.1 = some (tyX1 k) := by decide +kernel
abbrev cX1_init : ByteArray := prog_3_method_1_code
def yX1_init : MethodName := ⟨RX1, "<init>", "()V"⟩
abbrev cX1_take : ByteArray := prog_3_method_2_code
def yX1_take : MethodName := ⟨RX1, "take", "(LOneHeavyLoad$Land;II)V"⟩
abbrev cX1_strainOn : ByteArray := prog_3_method_3_code
def yX1_strainOn : MethodName := ⟨RX1, "strainOn", "(I)I"⟩
abbrev cX1_needsOf : ByteArray := prog_3_method_4_code
def yX1_needsOf : MethodName := ⟨RX1, "needsOf", "(LOneHeavyLoad$Land;I)I"⟩
def RX2 : String := "OneHeavyLoad$Reader"
def TX2 : u_T := fun k => match k with
  | 0 => ("OneHeavyLoad$Reader", "tape", "LOneHeavyLoad$Tape;", true)
  | 1 => ("OneHeavyLoad$Reader", "land", "LOneHeavyLoad$Land;", true)
  | 2 => ("OneHeavyLoad$Reader", "countsBefore", "[I", true)
  | _ => ("OneHeavyLoad$Reader", "settingsBefore", "[I", true)
def tyX2 : Nat → FieldType := fun k => match k with
  | 0 => .object "OneHeavyLoad$Tape"
  | 1 => .object "OneHeavyLoad$Land"
  | 2 => .array .int
  | _ => .array .int
abbrev wsX20 : List Cond := u_ws RX2 TX2 4
theorem nmX2 : ∀ a, a < 4 → ∀ b, b < 4 → a ≠ b → (TX2 a).2.1 ≠ (TX2 b).2.1 := by decide +kernel
theorem tyX2_ok : ∀ k, k < 4 → parseFieldDescriptor (TX2 k).2.2.1 = some (tyX2 k) := by decide +kernel
abbrev cX2_init : ByteArray := prog_4_method_1_code
def yX2_init : MethodName := ⟨RX2, "<init>", "(LOneHeavyLoad$Tape;LOneHeavyLoad$Land;)V"⟩
abbrev cX2_read : ByteArray := prog_4_method_2_code
def yX2_read : MethodName := ⟨RX2, "read", "()I"⟩
abbrev cX2_readStatement : ByteArray := prog_4_method_3_code
def yX2_readStatement : MethodName := ⟨RX2, "readStatement", "()V"⟩
abbrev cX2_enter : ByteArray := prog_4_method_4_code
def yX2_enter : MethodName := ⟨RX2, "enter", "(I)V"⟩
abbrev cX2_readRoad : ByteArray := prog_4_method_5_code
def yX2_readRoad : MethodName := ⟨RX2, "readRoad", "()V"⟩
abbrev cX2_readBridge : ByteArray := prog_4_method_6_code
def yX2_readBridge : MethodName := ⟨RX2, "readBridge", "()V"⟩
abbrev cX2_readWaggon : ByteArray := prog_4_method_7_code
def yX2_readWaggon : MethodName := ⟨RX2, "readWaggon", "()V"⟩
abbrev cX2_readPart : ByteArray := prog_4_method_8_code
def yX2_readPart : MethodName := ⟨RX2, "readPart", "()V"⟩
abbrev cX2_readSetting : ByteArray := prog_4_method_9_code
def yX2_readSetting : MethodName := ⟨RX2, "readSetting", "(I)V"⟩
abbrev cX2_number : ByteArray := prog_4_method_10_code
def yX2_number : MethodName := ⟨RX2, "number", "(Ljava/lang/String;II)I"⟩
abbrev cX2_numberIfTold : ByteArray := prog_4_method_11_code
def yX2_numberIfTold : MethodName := ⟨RX2, "numberIfTold", "(Ljava/lang/String;III)I"⟩
def RX3 : String := "OneHeavyLoad$Shelves"
def TX3 : u_T := fun k => match k with
  | 0 => ("OneHeavyLoad$Shelves", "held", "[I", true)
  | 1 => ("OneHeavyLoad$Shelves", "size", "[I", true)
  | _ => ("OneHeavyLoad$Shelves", "cells", "[J", true)
def tyX3 : Nat → FieldType := fun k => match k with
  | 0 => .array .int
  | 1 => .array .int
  | _ => .array .long
abbrev wsX30 : List Cond := u_ws RX3 TX3 3
theorem nmX3 : ∀ a, a < 3 → ∀ b, b < 3 → a ≠ b → (TX3 a).2.1 ≠ (TX3 b).2.1 := by decide +kernel
theorem tyX3_ok : ∀ k, k < 3 → parseFieldDescriptor (TX3 k).2.2.1 = some (tyX3 k) := by decide +kernel
abbrev cX3_init : ByteArray := prog_5_method_1_code
def yX3_init : MethodName := ⟨RX3, "<init>", "()V"⟩
abbrev cX3_holdsNothing : ByteArray := prog_5_method_2_code
def yX3_holdsNothing : MethodName := ⟨RX3, "holdsNothing", "(I)Z"⟩
abbrev cX3_holdsBridge : ByteArray := prog_5_method_3_code
def yX3_holdsBridge : MethodName := ⟨RX3, "holdsBridge", "(I)Z"⟩
abbrev cX3_holdsRow : ByteArray := prog_5_method_4_code
def yX3_holdsRow : MethodName := ⟨RX3, "holdsRow", "(I)Z"⟩
abbrev cX3_holdsUnlikeRows : ByteArray := prog_5_method_5_code
def yX3_holdsUnlikeRows : MethodName := ⟨RX3, "holdsUnlikeRows", "(II)Z"⟩
abbrev cX3_countHeld : ByteArray := prog_5_method_6_code
def yX3_countHeld : MethodName := ⟨RX3, "countHeld", "()I"⟩
abbrev cX3_putRow : ByteArray := prog_5_method_7_code
def yX3_putRow : MethodName := ⟨RX3, "putRow", "(III)V"⟩
abbrev cX3_putBridge : ByteArray := prog_5_method_8_code
def yX3_putBridge : MethodName := ⟨RX3, "putBridge", "(II)V"⟩
abbrev cX3_dropBridgesFrom : ByteArray := prog_5_method_9_code
def yX3_dropBridgesFrom : MethodName := ⟨RX3, "dropBridgesFrom", "(I)V"⟩
abbrev cX3_elementAt : ByteArray := prog_5_method_10_code
def yX3_elementAt : MethodName := ⟨RX3, "elementAt", "(II)J"⟩
abbrev cX3_putElement : ByteArray := prog_5_method_11_code
def yX3_putElement : MethodName := ⟨RX3, "putElement", "(IIJ)V"⟩
abbrev cX3_asSort : ByteArray := prog_5_method_12_code
def yX3_asSort : MethodName := ⟨RX3, "asSort", "(IJ)J"⟩
abbrev cX3_copyElements : ByteArray := prog_5_method_13_code
def yX3_copyElements : MethodName := ⟨RX3, "copyElements", "(IIIII)V"⟩
def RX4 : String := "OneHeavyLoad$Tape"
def TX4 : u_T := fun k => match k with
  | 0 => ("OneHeavyLoad$Tape", "bytes", "[I", true)
  | 1 => ("OneHeavyLoad$Tape", "size", "I", false)
  | 2 => ("OneHeavyLoad$Tape", "fault", "I", false)
  | 3 => ("OneHeavyLoad$Tape", "sort", "I", false)
  | 4 => ("OneHeavyLoad$Tape", "start", "I", false)
  | _ => ("OneHeavyLoad$Tape", "end", "I", false)
def tyX4 : Nat → FieldType := fun k => match k with
  | 0 => .array .int
  | 1 => .int
  | 2 => .int
  | 3 => .int
  | 4 => .int
  | _ => .int
abbrev wsX40 : List Cond := u_ws RX4 TX4 6
theorem nmX4 : ∀ a, a < 6 → ∀ b, b < 6 → a ≠ b → (TX4 a).2.1 ≠ (TX4 b).2.1 := by decide +kernel
theorem tyX4_ok : ∀ k, k < 6 → parseFieldDescriptor (TX4 k).2.2.1 = some (tyX4 k) := by decide +kernel
abbrev cX4_init : ByteArray := prog_6_method_1_code
def yX4_init : MethodName := ⟨RX4, "<init>", "()V"⟩
abbrev cX4_append : ByteArray := prog_6_method_2_code
def yX4_append : MethodName := ⟨RX4, "append", "(II)V"⟩
abbrev cX4_rewind : ByteArray := prog_6_method_3_code
def yX4_rewind : MethodName := ⟨RX4, "rewind", "()V"⟩
abbrev cX4_advance : ByteArray := prog_6_method_4_code
def yX4_advance : MethodName := ⟨RX4, "advance", "()V"⟩
abbrev cX4_isSound : ByteArray := prog_6_method_5_code
def yX4_isSound : MethodName := ⟨RX4, "isSound", "()Z"⟩
abbrev cX4_fail : ByteArray := prog_6_method_6_code
def yX4_fail : MethodName := ⟨RX4, "fail", "()V"⟩
abbrev cX4_isEnd : ByteArray := prog_6_method_7_code
def yX4_isEnd : MethodName := ⟨RX4, "isEnd", "()Z"⟩
abbrev cX4_isWord : ByteArray := prog_6_method_8_code
def yX4_isWord : MethodName := ⟨RX4, "isWord", "(Ljava/lang/String;)Z"⟩
abbrev cX4_takeSign : ByteArray := prog_6_method_9_code
def yX4_takeSign : MethodName := ⟨RX4, "takeSign", "()V"⟩
abbrev cX4_takeWord : ByteArray := prog_6_method_10_code
def yX4_takeWord : MethodName := ⟨RX4, "takeWord", "(Ljava/lang/String;)V"⟩
abbrev cX4_takeWordIfThere : ByteArray := prog_6_method_11_code
def yX4_takeWordIfThere : MethodName := ⟨RX4, "takeWordIfThere", "(Ljava/lang/String;)Z"⟩
abbrev cX4_takeNumber : ByteArray := prog_6_method_12_code
def yX4_takeNumber : MethodName := ⟨RX4, "takeNumber", "(II)I"⟩
abbrev cX4_numberHere : ByteArray := prog_6_method_13_code
def yX4_numberHere : MethodName := ⟨RX4, "numberHere", "()I"⟩
def RX5 : String := "OneHeavyLoad$Ways"
def TX5 : u_T := fun k => match k with
  | 0 => ("OneHeavyLoad$Ways", "land", "LOneHeavyLoad$Land;", true)
  | 1 => ("OneHeavyLoad$Ways", "pack", "LOneHeavyLoad$Pack;", true)
  | 2 => ("OneHeavyLoad$Ways", "props", "[I", true)
  | 3 => ("OneHeavyLoad$Ways", "propCoin", "[I", true)
  | 4 => ("OneHeavyLoad$Ways", "price", "[I", true)
  | 5 => ("OneHeavyLoad$Ways", "far", "[I", true)
  | _ => ("OneHeavyLoad$Ways", "walked", "[I", true)
def tyX5 : Nat → FieldType := fun k => match k with
  | 0 => .object "OneHeavyLoad$Land"
  | 1 => .object "OneHeavyLoad$Pack"
  | 2 => .array .int
  | 3 => .array .int
  | 4 => .array .int
  | 5 => .array .int
  | _ => .array .int
abbrev wsX50 : List Cond := u_ws RX5 TX5 7
theorem nmX5 : ∀ a, a < 7 → ∀ b, b < 7 → a ≠ b → (TX5 a).2.1 ≠ (TX5 b).2.1 := by decide +kernel
theorem tyX5_ok : ∀ k, k < 7 → parseFieldDescriptor (TX5 k).2.2.1 = some (tyX5 k) := by decide +kernel
abbrev cX5_init : ByteArray := prog_7_method_1_code
def yX5_init : MethodName := ⟨RX5, "<init>", "(LOneHeavyLoad$Land;)V"⟩
abbrev cX5_survey : ByteArray := prog_7_method_2_code
def yX5_survey : MethodName := ⟨RX5, "survey", "(II)V"⟩
abbrev cX5_engines : ByteArray := prog_7_method_3_code
def yX5_engines : MethodName := ⟨RX5, "engines", "(I)I"⟩
abbrev cX5_coinOf : ByteArray := prog_7_method_4_code
def yX5_coinOf : MethodName := ⟨RX5, "coinOf", "(II)I"⟩
abbrev cX5_daysOf : ByteArray := prog_7_method_5_code
def yX5_daysOf : MethodName := ⟨RX5, "daysOf", "(I)I"⟩
abbrev cX5_leastCoin : ByteArray := prog_7_method_6_code
def yX5_leastCoin : MethodName := ⟨RX5, "leastCoin", "(IIIII)I"⟩
abbrev cX5_leastDays : ByteArray := prog_7_method_7_code
def yX5_leastDays : MethodName := ⟨RX5, "leastDays", "(IIII)I"⟩
abbrev cX5_reached : ByteArray := prog_7_method_8_code
def yX5_reached : MethodName := ⟨RX5, "reached", "(III)I"⟩
abbrev cX5_hasWay : ByteArray := prog_7_method_9_code
def yX5_hasWay : MethodName := ⟨RX5, "hasWay", "(IIII)Z"⟩
abbrev cX5_priceByCoin : ByteArray := prog_7_method_10_code
def yX5_priceByCoin : MethodName := ⟨RX5, "priceByCoin", "(I)V"⟩
abbrev cX5_spread : ByteArray := prog_7_method_11_code
def yX5_spread : MethodName := ⟨RX5, "spread", "(I)V"⟩
abbrev cX5_shorten : ByteArray := prog_7_method_12_code
def yX5_shorten : MethodName := ⟨RX5, "shorten", "(I)Z"⟩
abbrev cX5_firstRoad : ByteArray := prog_7_method_13_code
def yX5_firstRoad : MethodName := ⟨RX5, "firstRoad", "(IIII)I"⟩
abbrev cX5_otherEnd : ByteArray := prog_7_method_14_code
def yX5_otherEnd : MethodName := ⟨RX5, "otherEnd", "(II)I"⟩
abbrev cX5_setOut : ByteArray := prog_7_method_15_code
def yX5_setOut : MethodName := ⟨RX5, "setOut", "(I)V"⟩
abbrev cX5_walk : ByteArray := prog_7_method_16_code
def yX5_walk : MethodName := ⟨RX5, "walk", "(J)Z"⟩
abbrev cX5_standProps : ByteArray := prog_7_method_17_code
def yX5_standProps : MethodName := ⟨RX5, "standProps", "(I)V"⟩
def RX6 : String := "OneHeavyLoad"
def TX6 : u_T := fun k => match k with
  | 0 => ("OneHeavyLoad", "now", "LOneHeavyLoad$Land;", true)
  | 1 => ("OneHeavyLoad", "kept", "LOneHeavyLoad$Land;", true)
  | 2 => ("OneHeavyLoad", "isKept", "Z", false)
  | 3 => ("OneHeavyLoad", "ways", "LOneHeavyLoad$Ways;", true)
  | 4 => ("OneHeavyLoad", "shelves", "LOneHeavyLoad$Shelves;", true)
  | 5 => ("OneHeavyLoad", "tape", "LOneHeavyLoad$Tape;", true)
  | 6 => ("OneHeavyLoad", "reader", "LOneHeavyLoad$Reader;", true)
  | 7 => ("OneHeavyLoad", "refusals", "[I", true)
  | _ => ("OneHeavyLoad", "bestPack", "[I", true)
def tyX6 : Nat → FieldType := fun k => match k with
  | 0 => .object "OneHeavyLoad$Land"
  | 1 => .object "OneHeavyLoad$Land"
  | 2 => .boolean
  | 3 => .object "OneHeavyLoad$Ways"
  | 4 => .object "OneHeavyLoad$Shelves"
  | 5 => .object "OneHeavyLoad$Tape"
  | 6 => .object "OneHeavyLoad$Reader"
  | 7 => .array .int
  | _ => .array .int
abbrev wsX60 : List Cond := u_ws RX6 TX6 9
theorem nmX6 : ∀ a, a < 9 → ∀ b, b < 9 → a ≠ b → (TX6 a).2.1 ≠ (TX6 b).2.1 := by decide +kernel
theorem tyX6_ok : ∀ k, k < 9 → parseFieldDescriptor (TX6 k).2.2.1 = some (tyX6 k) := by decide +kernel
abbrev cX6_init : ByteArray := prog_1_method_1_code
def yX6_init : MethodName := ⟨RX6, "<init>", "()V"⟩
abbrev cX6_row : ByteArray := prog_1_method_2_code
def yX6_row : MethodName := ⟨RX6, "row", "(III)I"⟩
abbrev cX6_set : ByteArray := prog_1_method_3_code
def yX6_set : MethodName := ⟨RX6, "set", "(IIJ)I"⟩
abbrev cX6_copy : ByteArray := prog_1_method_4_code
def yX6_copy : MethodName := ⟨RX6, "copy", "(IIIII)I"⟩
abbrev cX6_element : ByteArray := prog_1_method_5_code
def yX6_element : MethodName := ⟨RX6, "element", "(II)J"⟩
abbrev cX6_holds : ByteArray := prog_1_method_6_code
def yX6_holds : MethodName := ⟨RX6, "holds", "(I)I"⟩
abbrev cX6_show : ByteArray := prog_1_method_7_code
def yX6_show : MethodName := ⟨RX6, "show", "(II)I"⟩
abbrev cX6_says : ByteArray := prog_1_method_8_code
def yX6_says : MethodName := ⟨RX6, "says", "(II)I"⟩
abbrev cX6_road : ByteArray := prog_1_method_9_code
def yX6_road : MethodName := ⟨RX6, "road", "(IIIIII)I"⟩
abbrev cX6_bridge : ByteArray := prog_1_method_10_code
def yX6_bridge : MethodName := ⟨RX6, "bridge", "(IIIII)I"⟩
abbrev cX6_prop : ByteArray := prog_1_method_11_code
def yX6_prop : MethodName := ⟨RX6, "prop", "(III)I"⟩
abbrev cX6_waggon : ByteArray := prog_1_method_12_code
def yX6_waggon : MethodName := ⟨RX6, "waggon", "(III)I"⟩
abbrev cX6_part : ByteArray := prog_1_method_13_code
def yX6_part : MethodName := ⟨RX6, "part", "(II)I"⟩
abbrev cX6_ask : ByteArray := prog_1_method_14_code
def yX6_ask : MethodName := ⟨RX6, "ask", "(II)I"⟩
abbrev cX6_stand : ByteArray := prog_1_method_15_code
def yX6_stand : MethodName := ⟨RX6, "stand", "(IIZ)I"⟩
abbrev cX6_shut : ByteArray := prog_1_method_16_code
def yX6_shut : MethodName := ⟨RX6, "shut", "(IZ)I"⟩
abbrev cX6_feed : ByteArray := prog_1_method_17_code
def yX6_feed : MethodName := ⟨RX6, "feed", "(II)I"⟩
abbrev cX6_wipe : ByteArray := prog_1_method_18_code
def yX6_wipe : MethodName := ⟨RX6, "wipe", "()I"⟩
abbrev cX6_land : ByteArray := prog_1_method_19_code
def yX6_land : MethodName := ⟨RX6, "land", "()I"⟩
abbrev cX6_roadOf : ByteArray := prog_1_method_20_code
def yX6_roadOf : MethodName := ⟨RX6, "roadOf", "(II)I"⟩
abbrev cX6_bridgeOf : ByteArray := prog_1_method_21_code
def yX6_bridgeOf : MethodName := ⟨RX6, "bridgeOf", "(II)I"⟩
abbrev cX6_bears : ByteArray := prog_1_method_22_code
def yX6_bears : MethodName := ⟨RX6, "bears", "(IZ)I"⟩
abbrev cX6_length : ByteArray := prog_1_method_23_code
def yX6_length : MethodName := ⟨RX6, "length", "(I)I"⟩
abbrev cX6_axle : ByteArray := prog_1_method_24_code
def yX6_axle : MethodName := ⟨RX6, "axle", "(II)I"⟩
abbrev cX6_strain : ByteArray := prog_1_method_25_code
def yX6_strain : MethodName := ⟨RX6, "strain", "(III)I"⟩
abbrev cX6_needs : ByteArray := prog_1_method_26_code
def yX6_needs : MethodName := ⟨RX6, "needs", "(III)I"⟩
abbrev cX6_goes : ByteArray := prog_1_method_27_code
def yX6_goes : MethodName := ⟨RX6, "goes", "(IIII)I"⟩
abbrev cX6_cheapest : ByteArray := prog_1_method_28_code
def yX6_cheapest : MethodName := ⟨RX6, "cheapest", "(IIII)I"⟩
abbrev cX6_soonest : ByteArray := prog_1_method_29_code
def yX6_soonest : MethodName := ⟨RX6, "soonest", "(IIII)I"⟩
abbrev cX6_again : ByteArray := prog_1_method_30_code
def yX6_again : MethodName := ⟨RX6, "again", "(IIIII)I"⟩
abbrev cX6_best : ByteArray := prog_1_method_31_code
def yX6_best : MethodName := ⟨RX6, "best", "(III)I"⟩
abbrev cX6_judge : ByteArray := prog_1_method_32_code
def yX6_judge : MethodName := ⟨RX6, "judge", "(IIIII)I"⟩
abbrev cX6_told : ByteArray := prog_1_method_33_code
def yX6_told : MethodName := ⟨RX6, "told", "(IIIIII)I"⟩
abbrev cX6_reach : ByteArray := prog_1_method_34_code
def yX6_reach : MethodName := ⟨RX6, "reach", "(III)I"⟩
abbrev cX6_hang : ByteArray := prog_1_method_35_code
def yX6_hang : MethodName := ⟨RX6, "hang", "(IIII)I"⟩
abbrev cX6_fewest : ByteArray := prog_1_method_36_code
def yX6_fewest : MethodName := ⟨RX6, "fewest", "(III)I"⟩
abbrev cX6_most : ByteArray := prog_1_method_37_code
def yX6_most : MethodName := ⟨RX6, "most", "(III)I"⟩
abbrev cX6_frost : ByteArray := prog_1_method_38_code
def yX6_frost : MethodName := ⟨RX6, "frost", "(IIIIIII)J"⟩
abbrev cX6_begin : ByteArray := prog_1_method_39_code
def yX6_begin : MethodName := ⟨RX6, "begin", "(IIII)I"⟩
abbrev cX6_step : ByteArray := prog_1_method_40_code
def yX6_step : MethodName := ⟨RX6, "step", "()I"⟩
abbrev cX6_under : ByteArray := prog_1_method_41_code
def yX6_under : MethodName := ⟨RX6, "under", "(I)I"⟩
abbrev cX6_image : ByteArray := prog_1_method_42_code
def yX6_image : MethodName := ⟨RX6, "image", "()I"⟩
abbrev cX6_back : ByteArray := prog_1_method_43_code
def yX6_back : MethodName := ⟨RX6, "back", "()I"⟩
abbrev cX6_status : ByteArray := prog_1_method_44_code
def yX6_status : MethodName := ⟨RX6, "status", "(I)I"⟩
abbrev cX6_refuse : ByteArray := prog_1_method_45_code
def yX6_refuse : MethodName := ⟨RX6, "refuse", "(I)I"⟩
abbrev cX6_orStuck : ByteArray := prog_1_method_46_code
def yX6_orStuck : MethodName := ⟨RX6, "orStuck", "(I)I"⟩
abbrev cX6_within : ByteArray := prog_1_method_47_code
def yX6_within : MethodName := ⟨RX6, "within", "(III)Z"⟩
abbrev cX6_cut : ByteArray := prog_1_method_48_code
def yX6_cut : MethodName := ⟨RX6, "cut", "(II)I"⟩
abbrev cX6_roundedUp : ByteArray := prog_1_method_49_code
def yX6_roundedUp : MethodName := ⟨RX6, "roundedUp", "(II)I"⟩
abbrev cX6_isPlace : ByteArray := prog_1_method_50_code
def yX6_isPlace : MethodName := ⟨RX6, "isPlace", "(I)Z"⟩
abbrev cX6_isShelf : ByteArray := prog_1_method_51_code
def yX6_isShelf : MethodName := ⟨RX6, "isShelf", "(I)Z"⟩
abbrev cX6_isRoad : ByteArray := prog_1_method_52_code
def yX6_isRoad : MethodName := ⟨RX6, "isRoad", "(I)Z"⟩
abbrev cX6_isBridge : ByteArray := prog_1_method_53_code
def yX6_isBridge : MethodName := ⟨RX6, "isBridge", "(I)Z"⟩
abbrev cX6_isWaggon : ByteArray := prog_1_method_54_code
def yX6_isWaggon : MethodName := ⟨RX6, "isWaggon", "(I)Z"⟩
abbrev cX6_isPack : ByteArray := prog_1_method_55_code
def yX6_isPack : MethodName := ⟨RX6, "isPack", "(II)Z"⟩
abbrev cX6_isJourney : ByteArray := prog_1_method_56_code
def yX6_isJourney : MethodName := ⟨RX6, "isJourney", "(IIII)Z"⟩
abbrev cX6_whyNoRow : ByteArray := prog_1_method_57_code
def yX6_whyNoRow : MethodName := ⟨RX6, "whyNoRow", "(I)I"⟩
abbrev cX6_whyNotTold : ByteArray := prog_1_method_58_code
def yX6_whyNotTold : MethodName := ⟨RX6, "whyNotTold", "(IIIII)I"⟩
abbrev cX6_firstWrong : ByteArray := prog_1_method_59_code
def yX6_firstWrong : MethodName := ⟨RX6, "firstWrong", "(III)I"⟩
abbrev cX6_spoken : ByteArray := prog_1_method_60_code
def yX6_spoken : MethodName := ⟨RX6, "spoken", "(II)I"⟩
abbrev cX6_findBest : ByteArray := prog_1_method_61_code
def yX6_findBest : MethodName := ⟨RX6, "findBest", "(II)V"⟩
abbrev cX6_coinIfFallen : ByteArray := prog_1_method_62_code
def yX6_coinIfFallen : MethodName := ⟨RX6, "coinIfFallen", "(IIIII)I"⟩
abbrev cX6_heaviest : ByteArray := prog_1_method_63_code
def yX6_heaviest : MethodName := ⟨RX6, "heaviest", "(III)I"⟩
abbrev cX6_valueOfWaiting : ByteArray := prog_1_method_64_code
def yX6_valueOfWaiting : MethodName := ⟨RX6, "valueOfWaiting", "(JJIII)J"⟩
abbrev cX6_goAlong : ByteArray := prog_1_method_65_code
def yX6_goAlong : MethodName := ⟨RX6, "goAlong", "(I)V"⟩
def RX7 : String := "OneHeavyLoadModel"
def TX7 : u_T := fun k => match k with
  | 0 => ("OneHeavyLoadModel", "shelf", "[I", true)
  | 1 => ("OneHeavyLoadModel", "rowSort", "[I", true)
  | 2 => ("OneHeavyLoadModel", "rowSize", "[I", true)
  | 3 => ("OneHeavyLoadModel", "rows", "[[J", true)
  | 4 => ("OneHeavyLoadModel", "moved", "[J", true)
  | 5 => ("OneHeavyLoadModel", "shown", "[I", true)
  | 6 => ("OneHeavyLoadModel", "tape", "[I", true)
  | 7 => ("OneHeavyLoadModel", "tapeSize", "I", false)
  | 8 => ("OneHeavyLoadModel", "refused", "[I", true)
  | 9 => ("OneHeavyLoadModel", "roads", "I", false)
  | 10 => ("OneHeavyLoadModel", "road", "[[I", true)
  | 11 => ("OneHeavyLoadModel", "bridges", "I", false)
  | 12 => ("OneHeavyLoadModel", "bridge", "[[I", true)
  | 13 => ("OneHeavyLoadModel", "waggons", "I", false)
  | 14 => ("OneHeavyLoadModel", "waggon", "[[I", true)
  | 15 => ("OneHeavyLoadModel", "parts", "I", false)
  | 16 => ("OneHeavyLoadModel", "part", "[[I", true)
  | 17 => ("OneHeavyLoadModel", "asked", "[I", true)
  | 18 => ("OneHeavyLoadModel", "under", "[I", true)
  | 19 => ("OneHeavyLoadModel", "underCoin", "I", false)
  | 20 => ("OneHeavyLoadModel", "kept", "LOneHeavyLoadModel;", false)
  | 21 => ("OneHeavyLoadModel", "at", "I", false)
  | 22 => ("OneHeavyLoadModel", "token", "I", false)
  | 23 => ("OneHeavyLoadModel", "from", "I", false)
  | 24 => ("OneHeavyLoadModel", "figures", "J", false)
  | 25 => ("OneHeavyLoadModel", "fault", "I", false)
  | 26 => ("OneHeavyLoadModel", "statements", "I", false)
  | 27 => ("OneHeavyLoadModel", "far", "[J", true)
  | _ => ("OneHeavyLoadModel", "toldEnd", "I", false)
def tyX7 : Nat → FieldType := fun k => match k with
  | 0 => .array .int
  | 1 => .array .int
  | 2 => .array .int
  | 3 => .array (.array .long)
  | 4 => .array .long
  | 5 => .array .int
  | 6 => .array .int
  | 7 => .int
  | 8 => .array .int
  | 9 => .int
  | 10 => .array (.array .int)
  | 11 => .int
  | 12 => .array (.array .int)
  | 13 => .int
  | 14 => .array (.array .int)
  | 15 => .int
  | 16 => .array (.array .int)
  | 17 => .array .int
  | 18 => .array .int
  | 19 => .int
  | 20 => .object "OneHeavyLoadModel"
  | 21 => .int
  | 22 => .int
  | 23 => .int
  | 24 => .long
  | 25 => .int
  | 26 => .int
  | 27 => .array .long
  | _ => .int
abbrev wsX70 : List Cond := u_ws RX7 TX7 29
theorem nmX7 : ∀ a, a < 29 → ∀ b, b < 29 → a ≠ b → (TX7 a).2.1 ≠ (TX7 b).2.1 := by decide +kernel
theorem tyX7_ok : ∀ k, k < 29 → parseFieldDescriptor (TX7 k).2.2.1 = some (tyX7 k) := by decide +kernel
abbrev cX7_init : ByteArray := prog_9_method_1_code
def yX7_init : MethodName := ⟨RX7, "<init>", "()V"⟩
abbrev cX7_refuse : ByteArray := prog_9_method_2_code
def yX7_refuse : MethodName := ⟨RX7, "refuse", "(I)I"⟩
abbrev cX7_in : ByteArray := prog_9_method_3_code
def yX7_in : MethodName := ⟨RX7, "in", "(JJJ)Z"⟩
abbrev cX7_isPlace : ByteArray := prog_9_method_4_code
def yX7_isPlace : MethodName := ⟨RX7, "isPlace", "(I)Z"⟩
abbrev cX7_isRoad : ByteArray := prog_9_method_5_code
def yX7_isRoad : MethodName := ⟨RX7, "isRoad", "(I)Z"⟩
abbrev cX7_isBridge : ByteArray := prog_9_method_6_code
def yX7_isBridge : MethodName := ⟨RX7, "isBridge", "(I)Z"⟩
abbrev cX7_isWaggon : ByteArray := prog_9_method_7_code
def yX7_isWaggon : MethodName := ⟨RX7, "isWaggon", "(I)Z"⟩
abbrev cX7_isPack : ByteArray := prog_9_method_8_code
def yX7_isPack : MethodName := ⟨RX7, "isPack", "(II)Z"⟩
abbrev cX7_row : ByteArray := prog_9_method_9_code
def yX7_row : MethodName := ⟨RX7, "row", "(III)I"⟩
abbrev cX7_fit : ByteArray := prog_9_method_10_code
def yX7_fit : MethodName := ⟨RX7, "fit", "(IJ)J"⟩
abbrev cX7_set : ByteArray := prog_9_method_11_code
def yX7_set : MethodName := ⟨RX7, "set", "(IIJ)I"⟩
abbrev cX7_copy : ByteArray := prog_9_method_12_code
def yX7_copy : MethodName := ⟨RX7, "copy", "(IIIII)I"⟩
abbrev cX7_element : ByteArray := prog_9_method_13_code
def yX7_element : MethodName := ⟨RX7, "element", "(II)J"⟩
abbrev cX7_holds : ByteArray := prog_9_method_14_code
def yX7_holds : MethodName := ⟨RX7, "holds", "(I)I"⟩
abbrev cX7_show : ByteArray := prog_9_method_15_code
def yX7_show : MethodName := ⟨RX7, "show", "(II)I"⟩
abbrev cX7_isUnder : ByteArray := prog_9_method_16_code
def yX7_isUnder : MethodName := ⟨RX7, "isUnder", "(II)Z"⟩
abbrev cX7_says : ByteArray := prog_9_method_17_code
def yX7_says : MethodName := ⟨RX7, "says", "(II)I"⟩
abbrev cX7_newRoad : ByteArray := prog_9_method_18_code
def yX7_newRoad : MethodName := ⟨RX7, "newRoad", "(II)V"⟩
abbrev cX7_road : ByteArray := prog_9_method_19_code
def yX7_road : MethodName := ⟨RX7, "road", "(IIIIII)I"⟩
abbrev cX7_newBridge : ByteArray := prog_9_method_20_code
def yX7_newBridge : MethodName := ⟨RX7, "newBridge", "()V"⟩
abbrev cX7_bridge : ByteArray := prog_9_method_21_code
def yX7_bridge : MethodName := ⟨RX7, "bridge", "(IIIII)I"⟩
abbrev cX7_prop : ByteArray := prog_9_method_22_code
def yX7_prop : MethodName := ⟨RX7, "prop", "(III)I"⟩
abbrev cX7_waggon : ByteArray := prog_9_method_23_code
def yX7_waggon : MethodName := ⟨RX7, "waggon", "(III)I"⟩
abbrev cX7_part : ByteArray := prog_9_method_24_code
def yX7_part : MethodName := ⟨RX7, "part", "(II)I"⟩
abbrev cX7_ask : ByteArray := prog_9_method_25_code
def yX7_ask : MethodName := ⟨RX7, "ask", "(II)I"⟩
abbrev cX7_stand : ByteArray := prog_9_method_26_code
def yX7_stand : MethodName := ⟨RX7, "stand", "(IIZ)I"⟩
abbrev cX7_shut : ByteArray := prog_9_method_27_code
def yX7_shut : MethodName := ⟨RX7, "shut", "(IZ)I"⟩
abbrev cX7_feed : ByteArray := prog_9_method_28_code
def yX7_feed : MethodName := ⟨RX7, "feed", "(II)I"⟩
abbrev cX7_wipe : ByteArray := prog_9_method_29_code
def yX7_wipe : MethodName := ⟨RX7, "wipe", "()I"⟩
abbrev cX7_isLetter : ByteArray := prog_9_method_30_code
def yX7_isLetter : MethodName := ⟨RX7, "isLetter", "(I)Z"⟩
abbrev cX7_isDigit : ByteArray := prog_9_method_31_code
def yX7_isDigit : MethodName := ⟨RX7, "isDigit", "(I)Z"⟩
abbrev cX7_look : ByteArray := prog_9_method_32_code
def yX7_look : MethodName := ⟨RX7, "look", "()V"⟩
abbrev cX7_wrong : ByteArray := prog_9_method_33_code
def yX7_wrong : MethodName := ⟨RX7, "wrong", "()Z"⟩
abbrev cX7_isWord : ByteArray := prog_9_method_34_code
def yX7_isWord : MethodName := ⟨RX7, "isWord", "(Ljava/lang/String;)Z"⟩
abbrev cX7_number : ByteArray := prog_9_method_35_code
def yX7_number : MethodName := ⟨RX7, "number", "([IIII)Z"⟩
abbrev cX7_told : ByteArray := prog_9_method_36_code
def yX7_told : MethodName := ⟨RX7, "told", "(Ljava/lang/String;[IIII)Z"⟩
abbrev cX7_perhaps : ByteArray := prog_9_method_37_code
def yX7_perhaps : MethodName := ⟨RX7, "perhaps", "(Ljava/lang/String;[IIII)Z"⟩
abbrev cX7_statement : ByteArray := prog_9_method_38_code
def yX7_statement : MethodName := ⟨RX7, "statement", "()Z"⟩
abbrev cX7_roadTold : ByteArray := prog_9_method_39_code
def yX7_roadTold : MethodName := ⟨RX7, "roadTold", "([I)Z"⟩
abbrev cX7_bridgeTold : ByteArray := prog_9_method_40_code
def yX7_bridgeTold : MethodName := ⟨RX7, "bridgeTold", "([I)Z"⟩
abbrev cX7_read : ByteArray := prog_9_method_41_code
def yX7_read : MethodName := ⟨RX7, "read", "()Z"⟩
abbrev cX7_land : ByteArray := prog_9_method_42_code
def yX7_land : MethodName := ⟨RX7, "land", "()I"⟩
abbrev cX7_roadOf : ByteArray := prog_9_method_43_code
def yX7_roadOf : MethodName := ⟨RX7, "roadOf", "(II)I"⟩
abbrev cX7_bridgeOf : ByteArray := prog_9_method_44_code
def yX7_bridgeOf : MethodName := ⟨RX7, "bridgeOf", "(II)I"⟩
abbrev cX7_isHalf : ByteArray := prog_9_method_45_code
def yX7_isHalf : MethodName := ⟨RX7, "isHalf", "(I)Z"⟩
abbrev cX7_isNothing : ByteArray := prog_9_method_46_code
def yX7_isNothing : MethodName := ⟨RX7, "isNothing", "(I)Z"⟩
abbrev cX7_axleOf : ByteArray := prog_9_method_47_code
def yX7_axleOf : MethodName := ⟨RX7, "axleOf", "(I)I"⟩
abbrev cX7_allOf : ByteArray := prog_9_method_48_code
def yX7_allOf : MethodName := ⟨RX7, "allOf", "(IZ)I"⟩
abbrev cX7_bears : ByteArray := prog_9_method_49_code
def yX7_bears : MethodName := ⟨RX7, "bears", "(IZ)I"⟩
abbrev cX7_lengthOf : ByteArray := prog_9_method_50_code
def yX7_lengthOf : MethodName := ⟨RX7, "lengthOf", "(I)I"⟩
abbrev cX7_length : ByteArray := prog_9_method_51_code
def yX7_length : MethodName := ⟨RX7, "length", "(I)I"⟩
abbrev cX7_axleLoad : ByteArray := prog_9_method_52_code
def yX7_axleLoad : MethodName := ⟨RX7, "axleLoad", "(II)I"⟩
abbrev cX7_axle : ByteArray := prog_9_method_53_code
def yX7_axle : MethodName := ⟨RX7, "axle", "(II)I"⟩
abbrev cX7_strainOf : ByteArray := prog_9_method_54_code
def yX7_strainOf : MethodName := ⟨RX7, "strainOf", "(III)I"⟩
abbrev cX7_strain : ByteArray := prog_9_method_55_code
def yX7_strain : MethodName := ⟨RX7, "strain", "(III)I"⟩
abbrev cX7_needsOf : ByteArray := prog_9_method_56_code
def yX7_needsOf : MethodName := ⟨RX7, "needsOf", "(III)I"⟩
abbrev cX7_needs : ByteArray := prog_9_method_57_code
def yX7_needs : MethodName := ⟨RX7, "needs", "(III)I"⟩
abbrev cX7_goesOf : ByteArray := prog_9_method_58_code
def yX7_goesOf : MethodName := ⟨RX7, "goesOf", "(III)Z"⟩
abbrev cX7_enginesOf : ByteArray := prog_9_method_59_code
def yX7_enginesOf : MethodName := ⟨RX7, "enginesOf", "(III)I"⟩
abbrev cX7_propsOf : ByteArray := prog_9_method_60_code
def yX7_propsOf : MethodName := ⟨RX7, "propsOf", "(IIIZ)I"⟩
abbrev cX7_coinOf : ByteArray := prog_9_method_61_code
def yX7_coinOf : MethodName := ⟨RX7, "coinOf", "(IIII)I"⟩
abbrev cX7_daysOf : ByteArray := prog_9_method_62_code
def yX7_daysOf : MethodName := ⟨RX7, "daysOf", "(III)I"⟩
abbrev cX7_goes : ByteArray := prog_9_method_63_code
def yX7_goes : MethodName := ⟨RX7, "goes", "(IIII)I"⟩
abbrev cX7_findFar : ByteArray := prog_9_method_64_code
def yX7_findFar : MethodName := ⟨RX7, "findFar", "(IIII)V"⟩
abbrev cX7_partsCoin : ByteArray := prog_9_method_65_code
def yX7_partsCoin : MethodName := ⟨RX7, "partsCoin", "(I)I"⟩
abbrev cX7_cheapestOf : ByteArray := prog_9_method_66_code
def yX7_cheapestOf : MethodName := ⟨RX7, "cheapestOf", "(IIIII)I"⟩
abbrev cX7_cheapest : ByteArray := prog_9_method_67_code
def yX7_cheapest : MethodName := ⟨RX7, "cheapest", "(IIII)I"⟩
abbrev cX7_soonest : ByteArray := prog_9_method_68_code
def yX7_soonest : MethodName := ⟨RX7, "soonest", "(IIII)I"⟩
abbrev cX7_again : ByteArray := prog_9_method_69_code
def yX7_again : MethodName := ⟨RX7, "again", "(IIIII)I"⟩
abbrev cX7_best : ByteArray := prog_9_method_70_code
def yX7_best : MethodName := ⟨RX7, "best", "(III)I"⟩
abbrev cX7_firstWrong : ByteArray := prog_9_method_71_code
def yX7_firstWrong : MethodName := ⟨RX7, "firstWrong", "(IIIII)I"⟩
abbrev cX7_noWay : ByteArray := prog_9_method_72_code
def yX7_noWay : MethodName := ⟨RX7, "noWay", "(IIIII)I"⟩
abbrev cX7_judge : ByteArray := prog_9_method_73_code
def yX7_judge : MethodName := ⟨RX7, "judge", "(IIIII)I"⟩
abbrev cX7_told_ : ByteArray := prog_9_method_74_code
def yX7_told_ : MethodName := ⟨RX7, "told", "(IIIIII)I"⟩
abbrev cX7_bits : ByteArray := prog_9_method_75_code
def yX7_bits : MethodName := ⟨RX7, "bits", "(I)I"⟩
abbrev cX7_reach : ByteArray := prog_9_method_76_code
def yX7_reach : MethodName := ⟨RX7, "reach", "(III)I"⟩
abbrev cX7_hang : ByteArray := prog_9_method_77_code
def yX7_hang : MethodName := ⟨RX7, "hang", "(IIII)I"⟩
abbrev cX7_fewest : ByteArray := prog_9_method_78_code
def yX7_fewest : MethodName := ⟨RX7, "fewest", "(III)I"⟩
abbrev cX7_most : ByteArray := prog_9_method_79_code
def yX7_most : MethodName := ⟨RX7, "most", "(III)I"⟩
abbrev cX7_frost : ByteArray := prog_9_method_80_code
def yX7_frost : MethodName := ⟨RX7, "frost", "(IIIIIII)J"⟩
abbrev cX7_begin : ByteArray := prog_9_method_81_code
def yX7_begin : MethodName := ⟨RX7, "begin", "(IIII)I"⟩
abbrev cX7_step : ByteArray := prog_9_method_82_code
def yX7_step : MethodName := ⟨RX7, "step", "()I"⟩
abbrev cX7_under : ByteArray := prog_9_method_83_code
def yX7_under : MethodName := ⟨RX7, "under", "(I)I"⟩
abbrev cX7_over : ByteArray := prog_9_method_84_code
def yX7_over : MethodName := ⟨RX7, "over", "([I[I)V"⟩
abbrev cX7_overAll : ByteArray := prog_9_method_85_code
def yX7_overAll : MethodName := ⟨RX7, "overAll", "([[I[[I)V"⟩
abbrev cX7_takeFrom : ByteArray := prog_9_method_86_code
def yX7_takeFrom : MethodName := ⟨RX7, "takeFrom", "(LOneHeavyLoadModel;)V"⟩
abbrev cX7_image : ByteArray := prog_9_method_87_code
def yX7_image : MethodName := ⟨RX7, "image", "()I"⟩
abbrev cX7_back : ByteArray := prog_9_method_88_code
def yX7_back : MethodName := ⟨RX7, "back", "()I"⟩
abbrev cX7_status : ByteArray := prog_9_method_89_code
def yX7_status : MethodName := ⟨RX7, "status", "(I)I"⟩
def RJ6 : String := "java/lang/Integer"
def TJ6 : u_T := fun k => match k with
  | _ => ("", "", "", false)
def tyJ6 : Nat → FieldType := fun k => match k with
  | _ => .int
abbrev wsJ60 : List Cond := u_ws RJ6 TJ6 0
theorem nmJ6 : ∀ a, a < 0 → ∀ b, b < 0 → a ≠ b → (TJ6 a).2.1 ≠ (TJ6 b).2.1 := by decide +kernel
theorem tyJ6_ok : ∀ k, k < 0 → parseFieldDescriptor (TJ6 k).2.2.1 = some (tyJ6 k) := by decide +kernel
abbrev cJ6_bitCount_0f7a4 : ByteArray := prog_10_method_49_code
def yJ6_bitCount_0f7a4 : MethodName := ⟨RJ6, "bitCount", "(I)I"⟩
def RJ9 : String := "java/lang/Math"
def TJ9 : u_T := fun k => match k with
  | _ => ("", "", "", false)
def tyJ9 : Nat → FieldType := fun k => match k with
  | _ => .int
abbrev wsJ90 : List Cond := u_ws RJ9 TJ9 0
theorem nmJ9 : ∀ a, a < 0 → ∀ b, b < 0 → a ≠ b → (TJ9 a).2.1 ≠ (TJ9 b).2.1 := by decide +kernel
theorem tyJ9_ok : ∀ k, k < 0 → parseFieldDescriptor (TJ9 k).2.2.1 = some (tyJ9 k) := by decide +kernel
abbrev cJ9_max_7cf53 : ByteArray := prog_11_method_65_code
def yJ9_max_7cf53 : MethodName := ⟨RJ9, "max", "(II)I"⟩
abbrev cJ9_min_7cf53 : ByteArray := prog_11_method_69_code
def yJ9_min_7cf53 : MethodName := ⟨RJ9, "min", "(II)I"⟩
abbrev cJ9_min_f86c9 : ByteArray := prog_11_method_70_code
def yJ9_min_f86c9 : MethodName := ⟨RJ9, "min", "(JJ)J"⟩
def RJ0 : String := "java/lang/String"
def TJ0 : u_T := fun k => match k with
  | _ => ("", "", "", false)
def tyJ0 : Nat → FieldType := fun k => match k with
  | _ => .int
abbrev wsJ00 : List Cond := u_ws RJ0 TJ0 0
theorem nmJ0 : ∀ a, a < 0 → ∀ b, b < 0 → a ≠ b → (TJ0 a).2.1 ≠ (TJ0 b).2.1 := by decide +kernel
theorem tyJ0_ok : ∀ k, k < 0 → parseFieldDescriptor (TJ0 k).2.2.1 = some (tyJ0 k) := by decide +kernel
abbrev cJ0_length_8abf5 : ByteArray := prog_12_method_54_code
def yJ0_length_8abf5 : MethodName := ⟨RJ0, "length", "()I"⟩
abbrev cJ0_charAt_5068e : ByteArray := prog_12_method_56_code
def yJ0_charAt_5068e : MethodName := ⟨RJ0, "charAt", "(I)C"⟩
abbrev cJ0_coder_7d493 : ByteArray := prog_12_method_152_code
def yJ0_coder_7d493 : MethodName := ⟨RJ0, "coder", "()B"⟩
abbrev cJ0_isLatin1_aae02 : ByteArray := prog_12_method_154_code
def yJ0_isLatin1_aae02 : MethodName := ⟨RJ0, "isLatin1", "()Z"⟩
abbrev cJ0_checkIndex_df160 : ByteArray := prog_12_method_155_code
def yJ0_checkIndex_df160 : MethodName := ⟨RJ0, "checkIndex", "(II)V"⟩
def RJ1 : String := "java/lang/StringLatin1"
def TJ1 : u_T := fun k => match k with
  | _ => ("", "", "", false)
def tyJ1 : Nat → FieldType := fun k => match k with
  | _ => .int
abbrev wsJ10 : List Cond := u_ws RJ1 TJ1 0
theorem nmJ1 : ∀ a, a < 0 → ∀ b, b < 0 → a ≠ b → (TJ1 a).2.1 ≠ (TJ1 b).2.1 := by decide +kernel
theorem tyJ1_ok : ∀ k, k < 0 → parseFieldDescriptor (TJ1 k).2.2.1 = some (tyJ1 k) := by decide +kernel
abbrev cJ1_charAt_3b067 : ByteArray := prog_13_method_2_code
def yJ1_charAt_3b067 : MethodName := ⟨RJ1, "charAt", "([BI)C"⟩
def RJ2 : String := "java/lang/StringUTF16"
def TJ2 : u_T := fun k => match k with
  | _ => ("", "", "", false)
def tyJ2 : Nat → FieldType := fun k => match k with
  | _ => .int
abbrev wsJ20 : List Cond := u_ws RJ2 TJ2 0
theorem nmJ2 : ∀ a, a < 0 → ∀ b, b < 0 → a ≠ b → (TJ2 a).2.1 ≠ (TJ2 b).2.1 := by decide +kernel
theorem tyJ2_ok : ∀ k, k < 0 → parseFieldDescriptor (TJ2 k).2.2.1 = some (tyJ2 k) := by decide +kernel
abbrev cJ2_getChar_3b067 : ByteArray := prog_14_method_5_code
def yJ2_getChar_3b067 : MethodName := ⟨RJ2, "getChar", "([BI)C"⟩
abbrev cJ2_length_9d52b : ByteArray := prog_14_method_6_code
def yJ2_length_9d52b : MethodName := ⟨RJ2, "length", "([B)I"⟩
abbrev cJ2_charAt_3b067 : ByteArray := prog_14_method_83_code
def yJ2_charAt_3b067 : MethodName := ⟨RJ2, "charAt", "([BI)C"⟩
abbrev cJ2_checkIndex_2214a : ByteArray := prog_14_method_91_code
def yJ2_checkIndex_2214a : MethodName := ⟨RJ2, "checkIndex", "(I[B)V"⟩
def RJ10 : String := "java/lang/System"
def TJ10 : u_T := fun k => match k with
  | _ => ("", "", "", false)
def tyJ10 : Nat → FieldType := fun k => match k with
  | _ => .int
abbrev wsJ100 : List Cond := u_ws RJ10 TJ10 0
theorem nmJ10 : ∀ a, a < 0 → ∀ b, b < 0 → a ≠ b → (TJ10 a).2.1 ≠ (TJ10 b).2.1 := by decide +kernel
theorem tyJ10_ok : ∀ k, k < 0 → parseFieldDescriptor (TJ10 k).2.2.1 = some (tyJ10 k) := by decide +kernel
def RJ3 : String := "jdk/internal/util/Preconditions"
def TJ3 : u_T := fun k => match k with
  | _ => ("", "", "", false)
def tyJ3 : Nat → FieldType := fun k => match k with
  | _ => .int
abbrev wsJ30 : List Cond := u_ws RJ3 TJ3 0
theorem nmJ3 : ∀ a, a < 0 → ∀ b, b < 0 → a ≠ b → (TJ3 a).2.1 ≠ (TJ3 b).2.1 := by decide +kernel
theorem tyJ3_ok : ∀ k, k < 0 → parseFieldDescriptor (TJ3 k).2.2.1 = some (tyJ3 k) := by decide +kernel
abbrev cJ3_checkIndex_8e157 : ByteArray := prog_16_method_11_code
def yJ3_checkIndex_8e157 : MethodName := ⟨RJ3, "checkIndex", "(IILjava/util/function/BiFunction;)I"⟩
def RL : String := "OneHeavyLoadLaw"
abbrev cL_law : ByteArray := code
def yL_law : MethodName := ⟨RL, "law", "([I)Z"⟩
abbrev vwCl : List vw_C := [(RX0, TX0, 8), (RX1, TX1, 5), (RX2, TX2, 4), (RX3, TX3, 3), (RX4, TX4, 6), (RX5, TX5, 7), (RX6, TX6, 9), (RX7, TX7, 29)]
end
section
/-! The words that methods need are taken from one list, oh_t: all good words of the tables. A contract stands over the world of the cells that its method touches. -/
def oh_t : List Cond := lw_tbl.filter goodWord
theorem oh_of {w : Cond} {i : Nat} (h : lw_tbl[i]? = some w) (hg : goodWord w = true) : w ∈ oh_t := List.mem_filter.mpr ⟨List.mem_of_getElem? h, hg⟩
theorem oh_good {w : Cond} (h : w ∈ oh_t) : w ∈ oh_t ∧ ((w.onTables && w.keeps) = true ∨ ∃ ty, w = .arrayClass ty) := ⟨h, good_of_word (List.mem_filter.mp h).2⟩
theorem oh_ofs {ws : List Cond} (ps : List Nat) (hp : ws = ps.filterMap (fun i => lw_tbl[i]?)) (hg : ws.all goodWord = true) : ∀ w ∈ ws, w ∈ oh_t := by
  intro w hw
  have h1 := List.all_eq_true.mp hg w hw
  rw [hp] at hw
  obtain ⟨i, -, hi⟩ := List.mem_filterMap.mp hw
  exact oh_of hi h1
abbrev oh_w (y : MethodName) (b : ByteArray) (n : Nat) (r : Option FieldType) : List Cond := Cond.code y b n r :: oh_t
theorem oh_gW {w : Cond} (h : w ∈ oh_t) : GoodIn oh_t (w :: oh_t) := fun v hv => (List.mem_cons.mp hv).elim (fun e => by rw [e]; exact oh_good h) oh_good
theorem oh_gV {own C : String} {i : Nat} {y : MethodName} {b : ByteArray} {n : Nat} {r : Option FieldType} (h1 : Cond.methodLink own i y ∈ oh_t) (h2 : Cond.instanceMethod y ∈ oh_t) (h3 : Cond.selects C y y ∈ oh_t) (h4 : Cond.initialized C ∈ oh_t) (h5 : Cond.code y b n r ∈ oh_t) : GoodIn oh_t (wsV own i C y (oh_w y b n r)) := by
  intro v hv
  simp only [wsV, List.cons_append, List.nil_append, List.mem_cons] at hv
  rcases hv with rfl | rfl | rfl | rfl | rfl | hv
  · exact oh_good h1
  · exact oh_good h2
  · exact oh_good h3
  · exact oh_good h4
  · exact oh_good h5
  · exact oh_good hv
theorem oh_gS {own : String} {i : Nat} {y : MethodName} {b : ByteArray} {n : Nat} {r : Option FieldType} (h1 : Cond.methodLink own i y ∈ oh_t) (h2 : Cond.static y ∈ oh_t) (h4 : Cond.initialized y.cls ∈ oh_t) (h5 : Cond.code y b n r ∈ oh_t) : GoodIn oh_t (va_wsS own i y (oh_w y b n r)) := by
  intro v hv
  simp only [va_wsS, List.cons_append, List.nil_append, List.mem_cons] at hv
  rcases hv with rfl | rfl | rfl | rfl | hv
  · exact oh_good h1
  · exact oh_good h2
  · exact oh_good h4
  · exact oh_good h5
  · exact oh_good hv
/-- array classes: 0 int[], 1 long[], 2 int[][], 3 long[][] -/
abbrev oh_ty (E : Nat → ClassId) : List (ClassId × FieldType) := [(E 0, .int), (E 1, .long), (E 2, .array .int), (E 3, .array .long)]
/-- members of the nest that are private, and what is read through the nest -/
abbrev oh_nm : List (String × Nat × MethodName × String) := [("OneHeavyLoad$Ways", 17, ⟨"OneHeavyLoad$Pack", "<init>", "()V"⟩, "OneHeavyLoad"), ("OneHeavyLoad$Shelves", 36, ⟨"OneHeavyLoad", "within", "(III)Z"⟩, "OneHeavyLoad"), ("OneHeavyLoad$Tape", 58, ⟨"OneHeavyLoad", "within", "(III)Z"⟩, "OneHeavyLoad"), ("OneHeavyLoad$Pack", 43, ⟨"OneHeavyLoad", "roundedUp", "(II)I"⟩, "OneHeavyLoad"), ("OneHeavyLoad$Pack", 52, ⟨"OneHeavyLoad", "cut", "(II)I"⟩, "OneHeavyLoad"), ("OneHeavyLoad$Ways", 75, ⟨"OneHeavyLoad", "roundedUp", "(II)I"⟩, "OneHeavyLoad")]
abbrev oh_nf : List (String × Nat × String × String × String × String) := [("OneHeavyLoad$Land", 9, "OneHeavyLoad", "ROOM", "[I", "OneHeavyLoad"), ("OneHeavyLoad$Ways", 22, "OneHeavyLoad", "ROOM", "[I", "OneHeavyLoad"), ("OneHeavyLoad$Reader", 19, "OneHeavyLoad", "ROOM", "[I", "OneHeavyLoad"), ("OneHeavyLoad$Land", 57, "OneHeavyLoad", "TAKEN_FOR", "[I", "OneHeavyLoad"), ("OneHeavyLoad$Reader", 166, "OneHeavyLoad", "MAX_SETTING", "[I", "OneHeavyLoad")]
/-- String constants: class, entry, text, and the place of the address -/
abbrev oh_sr : List (String × Nat × String × Nat) := [("OneHeavyLoad$Reader", 61, "road", 3), ("OneHeavyLoad$Reader", 117, "miles", 4), ("OneHeavyLoad$Reader", 123, "rise", 5), ("OneHeavyLoad$Reader", 129, "turn", 6), ("OneHeavyLoad$Reader", 131, "parish", 7), ("OneHeavyLoad$Reader", 70, "bridge", 8), ("OneHeavyLoad$Reader", 137, "kind", 9), ("OneHeavyLoad$Reader", 139, "span", 10), ("OneHeavyLoad$Reader", 141, "axle", 11), ("OneHeavyLoad$Reader", 143, "all", 12), ("OneHeavyLoad$Reader", 145, "prop", 13), ("OneHeavyLoad$Reader", 75, "waggon", 14), ("OneHeavyLoad$Reader", 155, "space", 15), ("OneHeavyLoad$Reader", 157, "tare", 16), ("OneHeavyLoad$Reader", 80, "part", 17), ("OneHeavyLoad$Reader", 85, "load", 18), ("OneHeavyLoad$Reader", 94, "mile", 19), ("OneHeavyLoadModel", 200, "road", 20), ("OneHeavyLoadModel", 219, "miles", 21), ("OneHeavyLoadModel", 221, "rise", 22), ("OneHeavyLoadModel", 226, "turn", 23), ("OneHeavyLoadModel", 228, "parish", 24), ("OneHeavyLoadModel", 205, "bridge", 25), ("OneHeavyLoadModel", 230, "kind", 26), ("OneHeavyLoadModel", 232, "span", 27), ("OneHeavyLoadModel", 234, "axle", 28), ("OneHeavyLoadModel", 236, "all", 29), ("OneHeavyLoadModel", 238, "prop", 30), ("OneHeavyLoadModel", 209, "waggon", 31), ("OneHeavyLoadModel", 210, "space", 32), ("OneHeavyLoadModel", 212, "tare", 33), ("OneHeavyLoadModel", 214, "part", 34), ("OneHeavyLoadModel", 215, "load", 35), ("OneHeavyLoadModel", 217, "mile", 36)]
def oh_room : Nat → Int32 := fun j => if j = 0 then 24 else if j = 1 then 16 else 5
def oh_maxs : Nat → Int32 := fun j => if j = 0 then 900 else if j = 1 then 99 else 1
def oh_tak : Nat → Int32 := fun j => if j = 0 then 1 else if j = 1 then 3 else if j = 2 then 7 else if j = 3 then 9 else if j = 4 then 17 else 49
/-- what every method is given of the launch: G has the addresses (0 to 2 the tables, from 3 on the texts) -/
def oh_G (G : Nat → Nat) (A : Nat → Prop) (U : State) : Prop :=
  (∀ q ∈ oh_nm, va_Nw (.methodLinkNest q.1 q.2.1 q.2.2.1 q.2.2.2) U) ∧ (∀ q ∈ oh_nf, va_Nw (.fieldLinkNest q.1 q.2.1 q.2.2.1 q.2.2.2.1 q.2.2.2.2.1 q.2.2.2.2.2) U) ∧ (∀ q ∈ oh_sr, vk_R q.1 q.2.1 q.2.2.1 (G q.2.2.2) U) ∧
  (va_Z "OneHeavyLoad" "ROOM" "[I" (.ref (G 0)) A U U.heap ∧ va_T .int (G 0) 4 (fun j => .int (oh_room j)) A U U.heap) ∧
  (va_Z "OneHeavyLoad" "MAX_SETTING" "[I" (.ref (G 1)) A U U.heap ∧ va_T .int (G 1) 3 (fun j => .int (oh_maxs j)) A U U.heap) ∧
  (va_Z "OneHeavyLoad" "TAKEN_FOR" "[I" (.ref (G 2)) A U U.heap ∧ va_T .int (G 2) 6 (fun j => .int (oh_tak j)) A U U.heap)
theorem oh_G.same {G : Nat → Nat} {A : Nat → Prop} {u U : State} (hv : u.vm = U.vm) (hh : U.heap = u.heap) (h : oh_G G A u) : oh_G G A U := by
  have ha : u.vm.Alike U.vm := by rw [hv]; exact Vm.Alike.refl _
  obtain ⟨h1, h2, h3, ⟨a1, a2⟩, ⟨b1, b2⟩, c1, c2⟩ := h
  unfold oh_G
  rw [hh]
  exact ⟨fun q hq => (h1 q hq).same rfl hv, fun q hq => (h2 q hq).same rfl hv, fun q hq => (h3 q hq).same hv.symm, ⟨a1.moved ha, a2.moved ha⟩, ⟨b1.moved ha, b2.moved ha⟩, c1.moved ha, c2.moved ha⟩
theorem oh_G.to {G : Nat → Nat} {A B : Nat → Prop} {s U : State} {H : Heap} {locs : List Loc} (h : oh_G G A s) (hU : U.heap = H) (hW : s.WarmedH U.vm) (hS : va_S A s.heap H locs) (hAB : ∀ q, B q → A q) : oh_G G B U := by
  have ha := hW.alike
  obtain ⟨h1, h2, h3, ⟨a1, a2⟩, ⟨b1, b2⟩, c1, c2⟩ := h
  unfold oh_G
  rw [hU]
  exact ⟨fun q hq => (h1 q hq).warmM hW, fun q hq => (h2 q hq).warmF hW, fun q hq => (h3 q hq).warm hW, ⟨((a1.moved ha).kept hS.2.1).narrow hAB, ((a2.moved ha).kept hS.2.1).narrow hAB⟩, ⟨((b1.moved ha).kept hS.2.1).narrow hAB, ((b2.moved ha).kept hS.2.1).narrow hAB⟩, ((c1.moved ha).kept hS.2.1).narrow hAB, ((c2.moved ha).kept hS.2.1).narrow hAB⟩
/-- a method that only reads: its start -/
def oh_Pp (D : va_G) (E : Nat → ClassId) (G : Nat → Nat) (as : List Value) (ws : va_W) : Array Value → State → Prop := va_Pc as (fun U => va_P D vwCl ws U.heap ∧ va_K D vwCl (oh_ty E) U ∧ oh_G G (fun _ => False) U)
/-- a method that writes: its start -/
def oh_Pm (D : va_G) (E : Nat → ClassId) (G : Nat → Nat) (as : List Value) (ws : va_W) (sz : Nat) : Array Value → State → Prop := va_Pc as (fun U => U.heap.size = sz ∧ va_P D vwCl ws U.heap ∧ va_K D vwCl (oh_ty E) U ∧ va_D (fun _ => True) ws ∧ oh_G G (va_A ws sz) U)
/-- behind a method that writes: the cells -/
def oh_B (D : va_G) (A : Nat → Prop) {S : Type} (W1 : S → va_W) : S → State → Prop := fun u t => va_P D vwCl (W1 u) t.heap ∧ va_D A (W1 u)
theorem oh_blp {D : va_G} {E : Nat → ClassId} {G : Nat → Nat} {as : List Value} {ws : va_W} : FrameBlind (oh_Pp D E G as ws) := fun a U g mk q => ⟨q.1, q.2.1, va_K.moved (u := U) (U := U.calling g mk a) (Vm.Alike.refl U.vm) q.2.2.1, oh_G.same (u := U) (U := U.calling g mk a) rfl rfl q.2.2.2⟩
theorem oh_blm {D : va_G} {E : Nat → ClassId} {G : Nat → Nat} {as : List Value} {ws : va_W} {sz : Nat} : FrameBlind (oh_Pm D E G as ws sz) := fun a U g mk q => ⟨q.1, q.2.1, q.2.2.1, va_K.moved (u := U) (U := U.calling g mk a) (Vm.Alike.refl U.vm) q.2.2.2.1, q.2.2.2.2.1, oh_G.same (u := U) (U := U.calling g mk a) rfl rfl q.2.2.2.2.2⟩
theorem oh_fm {ws wc : va_W} {is : List Nat} (h : is.map (fun i => ws[i]?) = wc.map some) : is.filterMap (fun i => ws[i]?) = wc := by
  have h1 := congrArg (List.filterMap id) h
  simpa [List.filterMap_map] using h1
section OHC
variable {p : Program} {l : Launch} {e : Env} {R : Room} {s : State} {m : MethodId} {args : Array Value} {below : List Frame} {meth : Method} {c : Code} {H : Heap} {locs : List Loc} {cells slots : Nat} {Q : State → Prop}
variable {cc bytes : ByteArray} {pc nL maxL mc ms n index b : Nat} {ls : Array Slot} {st0 rest As : List Value} {D : va_G} {E : Nat → ClassId} {G : Nat → Nat} {A : Nat → Prop} {ws wc wr : va_W} {own C host : String} {y : MethodName} {ret : Option FieldType} {rm : Room} {v : Int32} {vl : Int64}
theorem oh_pre (hK : va_K D vwCl (oh_ty E) s) (hP : va_P D vwCl wc H) (hG : oh_G G A s) (hS : va_S A s.heap H locs) (as : List Value) : ∀ U : State, U.heap = H → s.WarmedH U.vm → oh_Pp D E G as wc as.toArray U := fun U hU hW => ⟨rfl, by rw [hU]; exact hP, va_K.moved hW.alike hK, hG.to hU hW hS (fun _ h => h.elim)⟩
theorem oh_prm (hK : va_K D vwCl (oh_ty E) s) (hP : va_P D vwCl wc H) (hDc : va_D A wc) (hG : oh_G G A s) (hS : va_S A s.heap H locs) (hF : ∀ q, va_A wc H.size q → A q) (as : List Value) : ∀ U : State, U.heap = H → s.WarmedH U.vm → oh_Pm D E G as wc H.size as.toArray U := fun U hU hW => ⟨rfl, by rw [hU], by rw [hU]; exact hP, va_K.moved hW.alike hK, hDc.weaken (fun _ _ _ _ => trivial), hG.to hU hW hS hF⟩
/-- calls of methods that only read -/
theorem oh_pV (S : CallFix p m c cc nL s args oh_t own) (hM : Met l y (oh_w y bytes maxL ret) rm (oh_Pp D E G (.ref b :: As) wc) (vp_Si (fun r => r = v)) 0 0 (fun _ => False)) (cw : CallW R s args own C index y bytes maxL ret (oh_w y bytes maxL ret) rm 0 0 n) (hK : va_K D vwCl (oh_ty E) s) (hP : va_P D vwCl wc H) (hG : oh_G G A s) (hS : va_S A s.heap H locs) (hrec : ∃ cell : Cell, H[b]? = some cell ∧ cell.vm.isStatics = false ∧ s.vm.findClass C = some cell.cls)
    (hn : As.length = n) (hsize : ls.size = nL) (hst : st0 = As.reverse ++ .ref b :: rest) (hW : (rest.map fun v => v.category).sum ≤ 8) (hdg : decode cc pc = .ok (.invokevirtual index, 3)) (hf : cells ≤ R.cells ∧ slots ≤ R.slots)
    (kk : W p l e R s m args below meth c H locs cells slots Q (F0 m (pc + 3) ls (.int v :: rest))) : W p l e R s m args below meth c H locs cells slots Q (F0 m pc ls st0) :=
  vp_callSi (va_Run.run (va_runV (As := As) (rest := rest) S hM cw ⟨oh_blp, hrec, oh_pre hK hP hG hS (.ref b :: As)⟩ rfl hn hsize hst (lv_room hW) hdg hf)) (fun r hr => by subst hr; exact kk)
theorem oh_pVl (S : CallFix p m c cc nL s args oh_t own) (hM : Met l y (oh_w y bytes maxL ret) rm (oh_Pp D E G (.ref b :: As) wc) (vp_Sl (fun r => r = vl)) 0 0 (fun _ => False)) (cw : CallW R s args own C index y bytes maxL ret (oh_w y bytes maxL ret) rm 0 0 n) (hK : va_K D vwCl (oh_ty E) s) (hP : va_P D vwCl wc H) (hG : oh_G G A s) (hS : va_S A s.heap H locs) (hrec : ∃ cell : Cell, H[b]? = some cell ∧ cell.vm.isStatics = false ∧ s.vm.findClass C = some cell.cls)
    (hn : As.length = n) (hsize : ls.size = nL) (hst : st0 = As.reverse ++ .ref b :: rest) (hW : (rest.map fun v => v.category).sum ≤ 8) (hdg : decode cc pc = .ok (.invokevirtual index, 3)) (hf : cells ≤ R.cells ∧ slots ≤ R.slots)
    (kk : W p l e R s m args below meth c H locs cells slots Q (F0 m (pc + 3) ls (.long vl :: rest))) : W p l e R s m args below meth c H locs cells slots Q (F0 m pc ls st0) :=
  vp_callSl (va_Run.run (va_runV (As := As) (rest := rest) S hM cw ⟨oh_blp, hrec, oh_pre hK hP hG hS (.ref b :: As)⟩ rfl hn hsize hst (lv_room hW) hdg hf)) (fun r hr => by subst hr; exact kk)
theorem oh_pS (S : CallFix p m c cc nL s args oh_t own) (hM : Met l y (oh_w y bytes maxL ret) rm (oh_Pp D E G As wc) (vp_Si (fun r => r = v)) 0 0 (fun _ => False)) (cw : CallB R s args own index y bytes maxL ret (oh_w y bytes maxL ret) rm 0 0 n ∧ (Cond.static y).before args s = true) (hK : va_K D vwCl (oh_ty E) s) (hP : va_P D vwCl wc H) (hG : oh_G G A s) (hS : va_S A s.heap H locs)
    (hn : As.length = n) (hsize : ls.size = nL) (hst : st0 = As.reverse ++ rest) (hW : (rest.map fun v => v.category).sum ≤ 8) (hdg : decode cc pc = .ok (.invokestatic index, 3)) (hf : cells ≤ R.cells ∧ slots ≤ R.slots)
    (kk : W p l e R s m args below meth c H locs cells slots Q (F0 m (pc + 3) ls (.int v :: rest))) : W p l e R s m args below meth c H locs cells slots Q (F0 m pc ls st0) :=
  vp_callSi (va_Run.run (va_runS (As := As) (rest := rest) S hM cw ⟨oh_blp, oh_pre hK hP hG hS As⟩ rfl hn hsize hst (lv_room hW) hdg hf)) (fun r hr => by subst hr; exact kk)
theorem oh_pSl (S : CallFix p m c cc nL s args oh_t own) (hM : Met l y (oh_w y bytes maxL ret) rm (oh_Pp D E G As wc) (vp_Sl (fun r => r = vl)) 0 0 (fun _ => False)) (cw : CallB R s args own index y bytes maxL ret (oh_w y bytes maxL ret) rm 0 0 n ∧ (Cond.static y).before args s = true) (hK : va_K D vwCl (oh_ty E) s) (hP : va_P D vwCl wc H) (hG : oh_G G A s) (hS : va_S A s.heap H locs)
    (hn : As.length = n) (hsize : ls.size = nL) (hst : st0 = As.reverse ++ rest) (hW : (rest.map fun v => v.category).sum ≤ 8) (hdg : decode cc pc = .ok (.invokestatic index, 3)) (hf : cells ≤ R.cells ∧ slots ≤ R.slots)
    (kk : W p l e R s m args below meth c H locs cells slots Q (F0 m (pc + 3) ls (.long vl :: rest))) : W p l e R s m args below meth c H locs cells slots Q (F0 m pc ls st0) :=
  vp_callSl (va_Run.run (va_runS (As := As) (rest := rest) S hM cw ⟨oh_blp, oh_pre hK hP hG hS As⟩ rfl hn hsize hst (lv_room hW) hdg hf)) (fun r hr => by subst hr; exact kk)
theorem oh_pSN (S : CallFix p m c cc nL s args oh_t own) (hM : Met l y (oh_w y bytes maxL ret) rm (oh_Pp D E G As wc) (vp_Si (fun r => r = v)) 0 0 (fun _ => False)) (cw : va_CN R s args own index y host bytes maxL ret (oh_w y bytes maxL ret) rm 0 0 n ∧ (Cond.static y).before args s = true ∧ True) (hK : va_K D vwCl (oh_ty E) s) (hP : va_P D vwCl wc H) (hG : oh_G G A s) (hS : va_S A s.heap H locs)
    (hn : As.length = n) (hsize : ls.size = nL) (hst : st0 = As.reverse ++ rest) (hW : (rest.map fun v => v.category).sum ≤ 8) (hdg : decode cc pc = .ok (.invokestatic index, 3)) (hf : cells ≤ R.cells ∧ slots ≤ R.slots)
    (kk : W p l e R s m args below meth c H locs cells slots Q (F0 m (pc + 3) ls (.int v :: rest))) : W p l e R s m args below meth c H locs cells slots Q (F0 m pc ls st0) :=
  vp_callSi (va_Run.run (va_runSN (As := As) (rest := rest) S hM cw ⟨oh_blp, oh_pre hK hP hG hS As⟩ rfl hn hsize hst (lv_room hW) hdg hf)) (fun r hr => by subst hr; exact kk)
/-- calls of methods that write -/
theorem oh_mV {S : Type} {post : Int32 → S → Prop} {W1 : S → va_W} (Sx : CallFix p m c cc nL s args oh_t own) (hM : Met l y (oh_w y bytes maxL ret) rm (oh_Pm D E G (.ref b :: As) wc H.size) (va_Qi post (oh_B D (va_A wc H.size) W1) (va_A wc H.size)) mc ms (va_A wc H.size)) (cw : CallW R s args own C index y bytes maxL ret (oh_w y bytes maxL ret) rm mc ms n) (hK : va_K D vwCl (oh_ty E) s) (hP : va_P D vwCl ws H) (hD : va_D A ws) (hG : oh_G G A s) (hS : va_S A s.heap H locs) (hA : ∀ q, s.heap.size ≤ q → A q)
    (isC isR : List Nat) (hC : isC.map (fun i => ws[i]?) = wc.map some) (hR : isR.map (fun i => ws[i]?) = wr.map some) (hnC : va_nd isC = true) (hnR : va_nd isR = true) (hdis : ∀ i ∈ isR, i ∉ isC) (hrec : ∃ cell : Cell, H[b]? = some cell ∧ cell.vm.isStatics = false ∧ s.vm.findClass C = some cell.cls)
    (hn : As.length = n) (hsize : ls.size = nL) (hst : st0 = As.reverse ++ .ref b :: rest) (hW : (rest.map fun v => v.category).sum ≤ 8) (hdg : decode cc pc = .ok (.invokevirtual index, 3)) (hf : cells + mc ≤ R.cells ∧ slots + ms ≤ R.slots)
    (kk : ∀ (r : Int32) (u : S) (H1 : Heap) (locs1 : List Loc), post r u → va_P D vwCl (wr ++ W1 u) H1 → va_D A (wr ++ W1 u) → va_S A s.heap H1 locs1 → W p l e R s m args below meth c H1 locs1 (cells + mc) (slots + ms) Q (F0 m (pc + 3) ls (.int r :: rest))) : W p l e R s m args below meth c H locs cells slots Q (F0 m pc ls st0) := by
  have hF := va_free (wc := wc) hD hS hA isC hC
  refine va_calli (va_runV (As := As) (rest := rest) Sx hM cw ⟨oh_blm, hrec, oh_prm hK (hP.sub isC (oh_fm hC)) (hD.sub isC hnC hC) hG hS hF (.ref b :: As)⟩ rfl hn hsize hst (lv_room hW) hdg hf) hS (fun q _ h => hF q h) hF (fun r u t H1 locs1 ht hvm hw hB hz1 hk1 hS1 => ?_)
  obtain ⟨hP1, hD1⟩ := hB
  rw [ht] at hP1
  obtain ⟨hP2, hD2⟩ := va_join hP hD isC isR hC hR hnR hdis hk1 hF hP1 hD1
  exact kk r u H1 locs1 hw hP2 hD2 hS1
theorem oh_mVl {S : Type} {post : Int64 → S → Prop} {W1 : S → va_W} (Sx : CallFix p m c cc nL s args oh_t own) (hM : Met l y (oh_w y bytes maxL ret) rm (oh_Pm D E G (.ref b :: As) wc H.size) (va_Ql post (oh_B D (va_A wc H.size) W1) (va_A wc H.size)) mc ms (va_A wc H.size)) (cw : CallW R s args own C index y bytes maxL ret (oh_w y bytes maxL ret) rm mc ms n) (hK : va_K D vwCl (oh_ty E) s) (hP : va_P D vwCl ws H) (hD : va_D A ws) (hG : oh_G G A s) (hS : va_S A s.heap H locs) (hA : ∀ q, s.heap.size ≤ q → A q)
    (isC isR : List Nat) (hC : isC.map (fun i => ws[i]?) = wc.map some) (hR : isR.map (fun i => ws[i]?) = wr.map some) (hnC : va_nd isC = true) (hnR : va_nd isR = true) (hdis : ∀ i ∈ isR, i ∉ isC) (hrec : ∃ cell : Cell, H[b]? = some cell ∧ cell.vm.isStatics = false ∧ s.vm.findClass C = some cell.cls)
    (hn : As.length = n) (hsize : ls.size = nL) (hst : st0 = As.reverse ++ .ref b :: rest) (hW : (rest.map fun v => v.category).sum ≤ 8) (hdg : decode cc pc = .ok (.invokevirtual index, 3)) (hf : cells + mc ≤ R.cells ∧ slots + ms ≤ R.slots)
    (kk : ∀ (r : Int64) (u : S) (H1 : Heap) (locs1 : List Loc), post r u → va_P D vwCl (wr ++ W1 u) H1 → va_D A (wr ++ W1 u) → va_S A s.heap H1 locs1 → W p l e R s m args below meth c H1 locs1 (cells + mc) (slots + ms) Q (F0 m (pc + 3) ls (.long r :: rest))) : W p l e R s m args below meth c H locs cells slots Q (F0 m pc ls st0) := by
  have hF := va_free (wc := wc) hD hS hA isC hC
  refine va_calll (va_runV (As := As) (rest := rest) Sx hM cw ⟨oh_blm, hrec, oh_prm hK (hP.sub isC (oh_fm hC)) (hD.sub isC hnC hC) hG hS hF (.ref b :: As)⟩ rfl hn hsize hst (lv_room hW) hdg hf) hS (fun q _ h => hF q h) hF (fun r u t H1 locs1 ht hvm hw hB hz1 hk1 hS1 => ?_)
  obtain ⟨hP1, hD1⟩ := hB
  rw [ht] at hP1
  obtain ⟨hP2, hD2⟩ := va_join hP hD isC isR hC hR hnR hdis hk1 hF hP1 hD1
  exact kk r u H1 locs1 hw hP2 hD2 hS1
theorem oh_mVv {S : Type} {post : S → Prop} {W1 : S → va_W} (Sx : CallFix p m c cc nL s args oh_t own) (hM : Met l y (oh_w y bytes maxL ret) rm (oh_Pm D E G (.ref b :: As) wc H.size) (va_Qv post (oh_B D (va_A wc H.size) W1) (va_A wc H.size)) mc ms (va_A wc H.size)) (cw : CallW R s args own C index y bytes maxL ret (oh_w y bytes maxL ret) rm mc ms n) (hK : va_K D vwCl (oh_ty E) s) (hP : va_P D vwCl ws H) (hD : va_D A ws) (hG : oh_G G A s) (hS : va_S A s.heap H locs) (hA : ∀ q, s.heap.size ≤ q → A q)
    (isC isR : List Nat) (hC : isC.map (fun i => ws[i]?) = wc.map some) (hR : isR.map (fun i => ws[i]?) = wr.map some) (hnC : va_nd isC = true) (hnR : va_nd isR = true) (hdis : ∀ i ∈ isR, i ∉ isC) (hrec : ∃ cell : Cell, H[b]? = some cell ∧ cell.vm.isStatics = false ∧ s.vm.findClass C = some cell.cls)
    (hn : As.length = n) (hsize : ls.size = nL) (hst : st0 = As.reverse ++ .ref b :: rest) (hW : (rest.map fun v => v.category).sum ≤ 8) (hdg : decode cc pc = .ok (.invokevirtual index, 3)) (hf : cells + mc ≤ R.cells ∧ slots + ms ≤ R.slots)
    (kk : ∀ (u : S) (H1 : Heap) (locs1 : List Loc), post u → va_P D vwCl (wr ++ W1 u) H1 → va_D A (wr ++ W1 u) → va_S A s.heap H1 locs1 → W p l e R s m args below meth c H1 locs1 (cells + mc) (slots + ms) Q (F0 m (pc + 3) ls rest)) : W p l e R s m args below meth c H locs cells slots Q (F0 m pc ls st0) := by
  have hF := va_free (wc := wc) hD hS hA isC hC
  refine va_callv (va_runV (As := As) (rest := rest) Sx hM cw ⟨oh_blm, hrec, oh_prm hK (hP.sub isC (oh_fm hC)) (hD.sub isC hnC hC) hG hS hF (.ref b :: As)⟩ rfl hn hsize hst (lv_room hW) hdg hf) hS (fun q _ h => hF q h) hF (fun u t H1 locs1 ht hvm hw hB hz1 hk1 hS1 => ?_)
  obtain ⟨hP1, hD1⟩ := hB
  rw [ht] at hP1
  obtain ⟨hP2, hD2⟩ := va_join hP hD isC isR hC hR hnR hdis hk1 hF hP1 hD1
  exact kk u H1 locs1 hw hP2 hD2 hS1
theorem oh_mI {S : Type} {post : S → Prop} {W1 : S → va_W} (Sx : CallFix p m c cc nL s args oh_t own) (hM : Met l y (oh_w y bytes maxL none) rm (oh_Pm D E G (.ref b :: As) wc H.size) (va_Qv post (oh_B D (va_A wc H.size) W1) (va_A wc H.size)) mc ms (va_A wc H.size)) (cw : CallB R s args own index y bytes maxL none (oh_w y bytes maxL none) rm mc ms n ∧ y.name = "<init>" ∧ (Cond.instanceMethod y).before args s = true) (hK : va_K D vwCl (oh_ty E) s) (hP : va_P D vwCl ws H) (hD : va_D A ws) (hG : oh_G G A s) (hS : va_S A s.heap H locs) (hA : ∀ q, s.heap.size ≤ q → A q)
    (isC isR : List Nat) (hC : isC.map (fun i => ws[i]?) = wc.map some) (hR : isR.map (fun i => ws[i]?) = wr.map some) (hnC : va_nd isC = true) (hnR : va_nd isR = true) (hdis : ∀ i ∈ isR, i ∉ isC)
    (hn : As.length = n) (hsize : ls.size = nL) (hst : st0 = As.reverse ++ .ref b :: rest) (hW : (rest.map fun v => v.category).sum ≤ 8) (hdg : decode cc pc = .ok (.invokespecial index, 3)) (hf : cells + mc ≤ R.cells ∧ slots + ms ≤ R.slots)
    (kk : ∀ (u : S) (H1 : Heap) (locs1 : List Loc), post u → va_P D vwCl (wr ++ W1 u) H1 → va_D A (wr ++ W1 u) → va_S A s.heap H1 locs1 → W p l e R s m args below meth c H1 locs1 (cells + mc) (slots + ms) Q (F0 m (pc + 3) ls rest)) : W p l e R s m args below meth c H locs cells slots Q (F0 m pc ls st0) := by
  have hF := va_free (wc := wc) hD hS hA isC hC
  refine va_callv (va_runI (As := As) (rest := rest) Sx hM cw ⟨oh_blm, oh_prm hK (hP.sub isC (oh_fm hC)) (hD.sub isC hnC hC) hG hS hF (.ref b :: As)⟩ rfl hn hsize hst (lv_room hW) hdg hf) hS (fun q _ h => hF q h) hF (fun u t H1 locs1 ht hvm hw hB hz1 hk1 hS1 => ?_)
  obtain ⟨hP1, hD1⟩ := hB
  rw [ht] at hP1
  obtain ⟨hP2, hD2⟩ := va_join hP hD isC isR hC hR hnR hdis hk1 hF hP1 hD1
  exact kk u H1 locs1 hw hP2 hD2 hS1
theorem oh_mIN {S : Type} {post : S → Prop} {W1 : S → va_W} (Sx : CallFix p m c cc nL s args oh_t own) (hM : Met l y (oh_w y bytes maxL none) rm (oh_Pm D E G (.ref b :: As) wc H.size) (va_Qv post (oh_B D (va_A wc H.size) W1) (va_A wc H.size)) mc ms (va_A wc H.size)) (cw : va_CN R s args own index y host bytes maxL none (oh_w y bytes maxL none) rm mc ms n ∧ y.name = "<init>" ∧ (Cond.instanceMethod y).before args s = true) (hK : va_K D vwCl (oh_ty E) s) (hP : va_P D vwCl ws H) (hD : va_D A ws) (hG : oh_G G A s) (hS : va_S A s.heap H locs) (hA : ∀ q, s.heap.size ≤ q → A q)
    (isC isR : List Nat) (hC : isC.map (fun i => ws[i]?) = wc.map some) (hR : isR.map (fun i => ws[i]?) = wr.map some) (hnC : va_nd isC = true) (hnR : va_nd isR = true) (hdis : ∀ i ∈ isR, i ∉ isC)
    (hn : As.length = n) (hsize : ls.size = nL) (hst : st0 = As.reverse ++ .ref b :: rest) (hW : (rest.map fun v => v.category).sum ≤ 8) (hdg : decode cc pc = .ok (.invokespecial index, 3)) (hf : cells + mc ≤ R.cells ∧ slots + ms ≤ R.slots)
    (kk : ∀ (u : S) (H1 : Heap) (locs1 : List Loc), post u → va_P D vwCl (wr ++ W1 u) H1 → va_D A (wr ++ W1 u) → va_S A s.heap H1 locs1 → W p l e R s m args below meth c H1 locs1 (cells + mc) (slots + ms) Q (F0 m (pc + 3) ls rest)) : W p l e R s m args below meth c H locs cells slots Q (F0 m pc ls st0) := by
  have hF := va_free (wc := wc) hD hS hA isC hC
  refine va_callv (va_runIN (As := As) (rest := rest) Sx hM cw ⟨oh_blm, oh_prm hK (hP.sub isC (oh_fm hC)) (hD.sub isC hnC hC) hG hS hF (.ref b :: As)⟩ rfl hn hsize hst (lv_room hW) hdg hf) hS (fun q _ h => hF q h) hF (fun u t H1 locs1 ht hvm hw hB hz1 hk1 hS1 => ?_)
  obtain ⟨hP1, hD1⟩ := hB
  rw [ht] at hP1
  obtain ⟨hP2, hD2⟩ := va_join hP hD isC isR hC hR hnR hdis hk1 hF hP1 hD1
  exact kk u H1 locs1 hw hP2 hD2 hS1
theorem oh_nrm {x v : Int32} (h : x = v) (k : W p l e R s m args below meth c H locs cells slots Q (F0 m pc ls (.int v :: rest))) : W p l e R s m args below meth c H locs cells slots Q (F0 m pc ls (.int x :: rest)) := by subst h; exact k
theorem oh_nrml {x v : Int64} (h : x = v) (k : W p l e R s m args below meth c H locs cells slots Q (F0 m pc ls (.long v :: rest))) : W p l e R s m args below meth c H locs cells slots Q (F0 m pc ls (.long x :: rest)) := by subst h; exact k
theorem oh_ne {x y : Int32} {k : Int} (h : ¬ x = y) (hy : y.toInt = k) : x.toInt ≠ k := fun e => h (Int32.toInt_inj.mp (e.trans hy.symm))
/-- a row's contents may be told otherwise, as long as its places agree -/
theorem oh_rwi {k a : Nat} {cA : ClassId} {f g : Nat → Int32} {N : Nat} (hk : ws[k]? = some (a, .inl (cA, N, .inl f))) (h : ∀ j, j < N → f j = g j) (hP : va_P D vwCl ws H) : va_P D vwCl (ws.set k (a, .inl (cA, N, .inl g))) H := by
  intro i q hq
  by_cases e : k = i
  · subst e
    have hl : k < ws.length := (List.getElem?_eq_some_iff.mp hk).1
    rw [List.getElem?_set_self hl] at hq
    cases hq
    have h1 : H[a]? = some (vp_cell cA (N, .inl f)) := hP k _ hk
    show H[a]? = some (vp_cell cA (N, .inl g))
    rw [h1]
    show some (arrV cA N (fun j => .int (f j))) = some (arrV cA N (fun j => .int (g j)))
    have e2 : (fun j : Fin N => Value.int (f j.val)) = (fun j : Fin N => Value.int (g j.val)) := funext (fun j => by rw [h j.val j.isLt])
    unfold arrV
    rw [e2]
  · rw [List.getElem?_set_ne e] at hq
    exact hP i q hq
theorem oh_rwD {k a : Nat} {x y : va_E} (hk : ws[k]? = some (a, x)) (hD : va_D A ws) : va_D A (ws.set k (a, y)) := by
  have key : ∀ (i : Nat) (q : Nat × va_E), (ws.set k (a, y))[i]? = some q → ∃ z, ws[i]? = some (q.1, z) := by
    intro i q hq
    by_cases e : k = i
    · subst e
      have hl : k < ws.length := (List.getElem?_eq_some_iff.mp hk).1
      rw [List.getElem?_set_self hl] at hq
      cases hq
      exact ⟨x, hk⟩
    · rw [List.getElem?_set_ne e] at hq
      exact ⟨q.2, hq⟩
  refine ⟨fun i j q r hi hj e => ?_, fun i q hi => ?_⟩
  · obtain ⟨z1, h1⟩ := key i q hi
    obtain ⟨z2, h2⟩ := key j r hj
    exact hD.1 i j _ _ h1 h2 e
  · obtain ⟨z1, h1⟩ := key i q hi
    exact hD.2 i (q.1, z1) h1
/-- one array class a type -/
theorem oh_same {tys : List (ClassId × FieldType)} {i j : Nat} {cA cB : ClassId} {ty : FieldType} (hK : va_K D vwCl tys s) (hi : tys[i]? = some (cA, ty)) (hj : tys[j]? = some (cB, ty)) (ht : ∀ C, ty ≠ .object C) : cA = cB := by
  have h1 := (hK.2 i _ hi).2
  have h2 := (hK.2 j _ hj).2
  cases ty with
  | object C => exact absurd rfl (ht C)
  | _ => exact Option.some.inj (h1.symm.trans h2)
/-- what lies in an array of arrays -/
theorem oh_aald (hexec : p.tables.exec = Jvm.exec) (hb : c.code = cc) {tys : List (ClassId × FieldType)} {a : Nat} (hK : va_K D vwCl tys s) (hP : va_P D vwCl ws H) (q0 t0 : Nat) {cA : ClassId} {ty : FieldType} {k : Nat} {f : Nat → Option Nat} (ha : ws[q0]? = some (a, .inl (cA, k, .inr (.inr (.inr (.inr f)))))) (ht : tys[t0]? = some (cA, .array ty)) {i : Int32} (hin : vp_in i k) {r : Nat} (hf : f i.toNatClampNeg = some r) (hdg : decode cc pc = .ok (.aaload, 1))
    (kk : W p l e R s m args below meth c H locs cells slots Q (F0 m (pc + 1) ls (.ref r :: rest))) : W p l e R s m args below meth c H locs cells slots Q (F0 m pc ls (.int i :: .ref a :: rest)) := by
  have hlt : i.toNatClampNeg < k := Nat.not_le.mp fun q => hin (Or.inr q)
  exact W.aald (v := .ref r) (ty := .array ty) hexec hb (hP q0 _ ha) ((hK.2 t0 _ ht).1 k (fun j => va_rf (f j))) rfl (fun q => by cases q) (by show ¬ (i < 0 ∨ (arrV _ _ _).slots.size ≤ _); rw [arrV_size]; exact hin) (by show (arrV _ _ _).slots[_]? = _; rw [arrV_read _ _ hlt, hf]; rfl) rfl rfl hdg kk
end OHC
end
section
theorem ig_0 : ∀ w ∈ u_ws RX0 TX0 8, w ∈ oh_t := oh_ofs [115, 117, 119, 121, 123, 125, 127, 129] (by decide +kernel) (by decide +kernel)
theorem oh_df0 : ∀ j, j < 8 → defaultValue (tyX0 j) = vp_V [.null, .null, .null, .null, .null, .null, .null, .int 0] j := by
  intro j hj
  rcases (show j = 0 ∨ j = 1 ∨ j = 2 ∨ j = 3 ∨ j = 4 ∨ j = 5 ∨ j = 6 ∨ j = 7 by omega) with rfl | rfl | rfl | rfl | rfl | rfl | rfl | rfl <;> rfl
theorem ig_1 : ∀ w ∈ u_ws RX1 TX1 5, w ∈ oh_t := oh_ofs [155, 157, 159, 161, 163] (by decide +kernel) (by decide +kernel)
theorem oh_df1 : ∀ j, j < 5 → defaultValue (tyX1 j) = vp_V [.int 0, .int 0, .int 0, .int 0, .int 0] j := by
  intro j hj
  rcases (show j = 0 ∨ j = 1 ∨ j = 2 ∨ j = 3 ∨ j = 4 by omega) with rfl | rfl | rfl | rfl | rfl <;> rfl
theorem ig_2 : ∀ w ∈ u_ws RX2 TX2 4, w ∈ oh_t := oh_ofs [249, 251, 253, 255] (by decide +kernel) (by decide +kernel)
theorem oh_df2 : ∀ j, j < 4 → defaultValue (tyX2 j) = vp_V [.null, .null, .null, .null] j := by
  intro j hj
  rcases (show j = 0 ∨ j = 1 ∨ j = 2 ∨ j = 3 by omega) with rfl | rfl | rfl | rfl <;> rfl
theorem ig_3 : ∀ w ∈ u_ws RX3 TX3 3, w ∈ oh_t := oh_ofs [203, 205, 207] (by decide +kernel) (by decide +kernel)
theorem oh_df3 : ∀ j, j < 3 → defaultValue (tyX3 j) = vp_V [.null, .null, .null] j := by
  intro j hj
  rcases (show j = 0 ∨ j = 1 ∨ j = 2 by omega) with rfl | rfl | rfl <;> rfl
theorem ig_4 : ∀ w ∈ u_ws RX4 TX4 6, w ∈ oh_t := oh_ofs [225, 227, 229, 231, 233, 235] (by decide +kernel) (by decide +kernel)
theorem oh_df4 : ∀ j, j < 6 → defaultValue (tyX4 j) = vp_V [.null, .int 0, .int 0, .int 0, .int 0, .int 0] j := by
  intro j hj
  rcases (show j = 0 ∨ j = 1 ∨ j = 2 ∨ j = 3 ∨ j = 4 ∨ j = 5 by omega) with rfl | rfl | rfl | rfl | rfl | rfl <;> rfl
theorem ig_5 : ∀ w ∈ u_ws RX5 TX5 7, w ∈ oh_t := oh_ofs [177, 179, 181, 183, 185, 187, 189] (by decide +kernel) (by decide +kernel)
theorem oh_df5 : ∀ j, j < 7 → defaultValue (tyX5 j) = vp_V [.null, .null, .null, .null, .null, .null, .null] j := by
  intro j hj
  rcases (show j = 0 ∨ j = 1 ∨ j = 2 ∨ j = 3 ∨ j = 4 ∨ j = 5 ∨ j = 6 by omega) with rfl | rfl | rfl | rfl | rfl | rfl | rfl <;> rfl
theorem ig_6 : ∀ w ∈ u_ws RX6 TX6 9, w ∈ oh_t := oh_ofs [267, 269, 271, 273, 275, 277, 279, 281, 283] (by decide +kernel) (by decide +kernel)
theorem oh_df6 : ∀ j, j < 9 → defaultValue (tyX6 j) = vp_V [.null, .null, .int 0, .null, .null, .null, .null, .null, .null] j := by
  intro j hj
  rcases (show j = 0 ∨ j = 1 ∨ j = 2 ∨ j = 3 ∨ j = 4 ∨ j = 5 ∨ j = 6 ∨ j = 7 ∨ j = 8 by omega) with rfl | rfl | rfl | rfl | rfl | rfl | rfl | rfl | rfl <;> rfl
theorem ig_7 : ∀ w ∈ u_ws RX7 TX7 29, w ∈ oh_t := oh_ofs [1002, 1004, 1006, 1008, 1010, 1012, 1014, 1016, 1018, 1020, 1022, 1024, 1026, 1028, 1030, 1032, 1034, 1036, 1038, 1040, 1042, 1044, 1046, 1048, 1050, 1052, 1054, 1056, 1058] (by decide +kernel) (by decide +kernel)
theorem oh_df7 : ∀ j, j < 29 → defaultValue (tyX7 j) = vp_V [.null, .null, .null, .null, .null, .null, .null, .int 0, .null, .int 0, .null, .int 0, .null, .int 0, .null, .int 0, .null, .null, .null, .int 0, .null, .int 0, .int 0, .int 0, .long 0, .int 0, .int 0, .null, .int 0] j := by
  intro j hj
  rcases (show j = 0 ∨ j = 1 ∨ j = 2 ∨ j = 3 ∨ j = 4 ∨ j = 5 ∨ j = 6 ∨ j = 7 ∨ j = 8 ∨ j = 9 ∨ j = 10 ∨ j = 11 ∨ j = 12 ∨ j = 13 ∨ j = 14 ∨ j = 15 ∨ j = 16 ∨ j = 17 ∨ j = 18 ∨ j = 19 ∨ j = 20 ∨ j = 21 ∨ j = 22 ∨ j = 23 ∨ j = 24 ∨ j = 25 ∨ j = 26 ∨ j = 27 ∨ j = 28 by omega) with rfl | rfl | rfl | rfl | rfl | rfl | rfl | rfl | rfl | rfl | rfl | rfl | rfl | rfl | rfl | rfl | rfl | rfl | rfl | rfl | rfl | rfl | rfl | rfl | rfl | rfl | rfl | rfl | rfl <;> rfl
theorem oh_new_i (n : Nat) (c : ClassId) : vp_cell c (n, .inl (fun _ => 0)) = arrV c n (fun _ => defaultValue .int) := rfl
theorem oh_new_l (n : Nat) (c : ClassId) : vp_cell c (n, .inr (.inl (fun _ => 0))) = arrV c n (fun _ => defaultValue .long) := rfl
theorem q_0 : Cond.selects RX6 yX6_refuse yX6_refuse ∈ oh_t := oh_of (i := 0) (by decide +kernel) rfl
theorem q_1 : Cond.selects RX6 yX6_whyNoRow yX6_whyNoRow ∈ oh_t := oh_of (i := 1) (by decide +kernel) rfl
theorem q_2 : Cond.selects RX6 yX6_isBridge yX6_isBridge ∈ oh_t := oh_of (i := 2) (by decide +kernel) rfl
theorem q_5 : Cond.selects RX6 yX6_isRoad yX6_isRoad ∈ oh_t := oh_of (i := 5) (by decide +kernel) rfl
theorem q_6 : Cond.selects RX2 yX2_readStatement yX2_readStatement ∈ oh_t := oh_of (i := 6) (by decide +kernel) rfl
theorem q_15 : Cond.selects RX6 yX6_isWaggon yX6_isWaggon ∈ oh_t := oh_of (i := 15) (by decide +kernel) rfl
theorem q_16 : Cond.selects RX6 yX6_isPack yX6_isPack ∈ oh_t := oh_of (i := 16) (by decide +kernel) rfl
theorem q_17 : Cond.selects RX6 yX6_isJourney yX6_isJourney ∈ oh_t := oh_of (i := 17) (by decide +kernel) rfl
theorem q_22 : Cond.selects RX6 yX6_findBest yX6_findBest ∈ oh_t := oh_of (i := 22) (by decide +kernel) rfl
theorem q_23 : Cond.selects RX6 yX6_whyNotTold yX6_whyNotTold ∈ oh_t := oh_of (i := 23) (by decide +kernel) rfl
theorem q_66 : Cond.initialized RX6 ∈ oh_t := oh_of (i := 66) (by decide +kernel) rfl
theorem q_67 : Cond.initialized RX0 ∈ oh_t := oh_of (i := 67) (by decide +kernel) rfl
theorem q_70 : Cond.initialized RX3 ∈ oh_t := oh_of (i := 70) (by decide +kernel) rfl
theorem q_71 : Cond.initialized RX4 ∈ oh_t := oh_of (i := 71) (by decide +kernel) rfl
theorem q_72 : Cond.initialized RX2 ∈ oh_t := oh_of (i := 72) (by decide +kernel) rfl
theorem q_74 : Cond.initialized RJ10 ∈ oh_t := oh_of (i := 74) (by decide +kernel) rfl
theorem q_97 : Cond.fieldLink RX0 13 "OneHeavyLoad$Land" "counts" "[I" ∈ oh_t := oh_of (i := 97) (by decide +kernel) rfl
theorem q_98 : Cond.fieldLink RX2 29 "OneHeavyLoad$Land" "counts" "[I" ∈ oh_t := oh_of (i := 98) (by decide +kernel) rfl
theorem q_100 : Cond.fieldLink RX6 273 "OneHeavyLoad$Land" "counts" "[I" ∈ oh_t := oh_of (i := 100) (by decide +kernel) rfl
theorem q_101 : Cond.fieldLink RX0 18 "OneHeavyLoad$Land" "roads" "[I" ∈ oh_t := oh_of (i := 101) (by decide +kernel) rfl
theorem q_103 : Cond.fieldLink RX0 21 "OneHeavyLoad$Land" "bridges" "[I" ∈ oh_t := oh_of (i := 103) (by decide +kernel) rfl
theorem q_104 : Cond.fieldLink RX0 24 "OneHeavyLoad$Land" "waggons" "[I" ∈ oh_t := oh_of (i := 104) (by decide +kernel) rfl
theorem q_105 : Cond.fieldLink RX0 27 "OneHeavyLoad$Land" "parts" "[I" ∈ oh_t := oh_of (i := 105) (by decide +kernel) rfl
theorem q_106 : Cond.fieldLink RX0 30 "OneHeavyLoad$Land" "settings" "[I" ∈ oh_t := oh_of (i := 106) (by decide +kernel) rfl
theorem q_107 : Cond.fieldLink RX2 40 "OneHeavyLoad$Land" "settings" "[I" ∈ oh_t := oh_of (i := 107) (by decide +kernel) rfl
theorem q_110 : Cond.fieldLink RX6 156 "OneHeavyLoad$Land" "settings" "[I" ∈ oh_t := oh_of (i := 110) (by decide +kernel) rfl
theorem q_111 : Cond.fieldLink RX0 33 "OneHeavyLoad$Land" "trip" "[I" ∈ oh_t := oh_of (i := 111) (by decide +kernel) rfl
theorem q_112 : Cond.fieldLink RX6 301 "OneHeavyLoad$Land" "trip" "[I" ∈ oh_t := oh_of (i := 112) (by decide +kernel) rfl
theorem q_113 : Cond.fieldLink RX0 36 "OneHeavyLoad$Land" "onWay" "Z" ∈ oh_t := oh_of (i := 113) (by decide +kernel) rfl
theorem q_114 : Cond.fieldLink RX6 304 "OneHeavyLoad$Land" "onWay" "Z" ∈ oh_t := oh_of (i := 114) (by decide +kernel) rfl
theorem q_198 : Cond.fieldLink RX3 9 "OneHeavyLoad$Shelves" "held" "[I" ∈ oh_t := oh_of (i := 198) (by decide +kernel) rfl
theorem q_199 : Cond.fieldLink RX6 109 "OneHeavyLoad$Shelves" "held" "[I" ∈ oh_t := oh_of (i := 199) (by decide +kernel) rfl
theorem q_200 : Cond.fieldLink RX3 15 "OneHeavyLoad$Shelves" "size" "[I" ∈ oh_t := oh_of (i := 200) (by decide +kernel) rfl
theorem q_217 : Cond.fieldLink RX4 9 "OneHeavyLoad$Tape" "bytes" "[I" ∈ oh_t := oh_of (i := 217) (by decide +kernel) rfl
theorem q_218 : Cond.fieldLink RX4 15 "OneHeavyLoad$Tape" "size" "I" ∈ oh_t := oh_of (i := 218) (by decide +kernel) rfl
theorem q_219 : Cond.fieldLink RX6 171 "OneHeavyLoad$Tape" "size" "I" ∈ oh_t := oh_of (i := 219) (by decide +kernel) rfl
theorem q_220 : Cond.fieldLink RX4 19 "OneHeavyLoad$Tape" "fault" "I" ∈ oh_t := oh_of (i := 220) (by decide +kernel) rfl
theorem q_221 : Cond.fieldLink RX6 181 "OneHeavyLoad$Tape" "fault" "I" ∈ oh_t := oh_of (i := 221) (by decide +kernel) rfl
theorem q_222 : Cond.fieldLink RX4 31 "OneHeavyLoad$Tape" "sort" "I" ∈ oh_t := oh_of (i := 222) (by decide +kernel) rfl
theorem q_223 : Cond.fieldLink RX4 28 "OneHeavyLoad$Tape" "start" "I" ∈ oh_t := oh_of (i := 223) (by decide +kernel) rfl
theorem q_224 : Cond.fieldLink RX4 22 "OneHeavyLoad$Tape" "end" "I" ∈ oh_t := oh_of (i := 224) (by decide +kernel) rfl
theorem q_245 : Cond.fieldLink RX2 9 "OneHeavyLoad$Reader" "tape" "LOneHeavyLoad$Tape;" ∈ oh_t := oh_of (i := 245) (by decide +kernel) rfl
theorem q_246 : Cond.fieldLink RX2 15 "OneHeavyLoad$Reader" "land" "LOneHeavyLoad$Land;" ∈ oh_t := oh_of (i := 246) (by decide +kernel) rfl
theorem q_247 : Cond.fieldLink RX2 23 "OneHeavyLoad$Reader" "countsBefore" "[I" ∈ oh_t := oh_of (i := 247) (by decide +kernel) rfl
theorem q_248 : Cond.fieldLink RX2 26 "OneHeavyLoad$Reader" "settingsBefore" "[I" ∈ oh_t := oh_of (i := 248) (by decide +kernel) rfl
theorem q_258 : Cond.fieldLink RX6 10 "OneHeavyLoad" "now" "LOneHeavyLoad$Land;" ∈ oh_t := oh_of (i := 258) (by decide +kernel) rfl
theorem q_259 : Cond.fieldLink RX6 16 "OneHeavyLoad" "kept" "LOneHeavyLoad$Land;" ∈ oh_t := oh_of (i := 259) (by decide +kernel) rfl
theorem q_260 : Cond.fieldLink RX6 19 "OneHeavyLoad" "isKept" "Z" ∈ oh_t := oh_of (i := 260) (by decide +kernel) rfl
theorem q_262 : Cond.fieldLink RX6 35 "OneHeavyLoad" "shelves" "LOneHeavyLoad$Shelves;" ∈ oh_t := oh_of (i := 262) (by decide +kernel) rfl
theorem q_263 : Cond.fieldLink RX6 42 "OneHeavyLoad" "tape" "LOneHeavyLoad$Tape;" ∈ oh_t := oh_of (i := 263) (by decide +kernel) rfl
theorem q_264 : Cond.fieldLink RX6 51 "OneHeavyLoad" "reader" "LOneHeavyLoad$Reader;" ∈ oh_t := oh_of (i := 264) (by decide +kernel) rfl
theorem q_265 : Cond.fieldLink RX6 55 "OneHeavyLoad" "refusals" "[I" ∈ oh_t := oh_of (i := 265) (by decide +kernel) rfl
theorem q_266 : Cond.fieldLink RX6 59 "OneHeavyLoad" "bestPack" "[I" ∈ oh_t := oh_of (i := 266) (by decide +kernel) rfl
theorem q_290 : Cond.methodLink RX6 62 yX6_isShelf ∈ oh_t := oh_of (i := 290) (by decide +kernel) rfl
theorem q_291 : Cond.static yX6_isShelf ∈ oh_t := oh_of (i := 291) (by decide +kernel) rfl
theorem q_292 : Cond.code yX6_isShelf cX6_isShelf 1 (some .boolean) ∈ oh_t := oh_of (i := 292) (by decide +kernel) rfl
theorem q_293 : Cond.methodLink RX6 66 yX6_within ∈ oh_t := oh_of (i := 293) (by decide +kernel) rfl
theorem q_294 : Cond.static yX6_within ∈ oh_t := oh_of (i := 294) (by decide +kernel) rfl
theorem q_295 : Cond.code yX6_within cX6_within 3 (some .boolean) ∈ oh_t := oh_of (i := 295) (by decide +kernel) rfl
theorem q_296 : Cond.methodLink RX6 70 yX6_refuse ∈ oh_t := oh_of (i := 296) (by decide +kernel) rfl
theorem q_298 : Cond.instanceMethod yX6_refuse ∈ oh_t := oh_of (i := 298) (by decide +kernel) rfl
theorem q_299 : Cond.code yX6_refuse cX6_refuse 3 (some .int) ∈ oh_t := oh_of (i := 299) (by decide +kernel) rfl
theorem q_308 : Cond.methodLink RX6 78 yX6_whyNoRow ∈ oh_t := oh_of (i := 308) (by decide +kernel) rfl
theorem q_310 : Cond.instanceMethod yX6_whyNoRow ∈ oh_t := oh_of (i := 310) (by decide +kernel) rfl
theorem q_311 : Cond.code yX6_whyNoRow cX6_whyNoRow 2 (some .int) ∈ oh_t := oh_of (i := 311) (by decide +kernel) rfl
theorem q_312 : Cond.methodLink RX6 88 yX3_holdsBridge ∈ oh_t := oh_of (i := 312) (by decide +kernel) rfl
theorem q_313 : Cond.instanceMethod yX3_holdsBridge ∈ oh_t := oh_of (i := 313) (by decide +kernel) rfl
theorem q_314 : Cond.selects RX3 yX3_holdsBridge yX3_holdsBridge ∈ oh_t := oh_of (i := 314) (by decide +kernel) rfl
theorem q_315 : Cond.code yX3_holdsBridge cX3_holdsBridge 2 (some .boolean) ∈ oh_t := oh_of (i := 315) (by decide +kernel) rfl
theorem q_316 : Cond.methodLink RX6 95 yX3_holdsNothing ∈ oh_t := oh_of (i := 316) (by decide +kernel) rfl
theorem q_317 : Cond.instanceMethod yX3_holdsNothing ∈ oh_t := oh_of (i := 317) (by decide +kernel) rfl
theorem q_318 : Cond.selects RX3 yX3_holdsNothing yX3_holdsNothing ∈ oh_t := oh_of (i := 318) (by decide +kernel) rfl
theorem q_319 : Cond.code yX3_holdsNothing cX3_holdsNothing 2 (some .boolean) ∈ oh_t := oh_of (i := 319) (by decide +kernel) rfl
theorem q_331 : Cond.methodLink RX6 91 yX3_holdsUnlikeRows ∈ oh_t := oh_of (i := 331) (by decide +kernel) rfl
theorem q_332 : Cond.instanceMethod yX3_holdsUnlikeRows ∈ oh_t := oh_of (i := 332) (by decide +kernel) rfl
theorem q_333 : Cond.selects RX3 yX3_holdsUnlikeRows yX3_holdsUnlikeRows ∈ oh_t := oh_of (i := 333) (by decide +kernel) rfl
theorem q_334 : Cond.code yX3_holdsUnlikeRows cX3_holdsUnlikeRows 3 (some .boolean) ∈ oh_t := oh_of (i := 334) (by decide +kernel) rfl
theorem q_335 : Cond.methodLink RX3 29 yX3_holdsRow ∈ oh_t := oh_of (i := 335) (by decide +kernel) rfl
theorem q_336 : Cond.instanceMethod yX3_holdsRow ∈ oh_t := oh_of (i := 336) (by decide +kernel) rfl
theorem q_337 : Cond.selects RX3 yX3_holdsRow yX3_holdsRow ∈ oh_t := oh_of (i := 337) (by decide +kernel) rfl
theorem q_338 : Cond.code yX3_holdsRow cX3_holdsRow 2 (some .boolean) ∈ oh_t := oh_of (i := 338) (by decide +kernel) rfl
theorem q_339 : Cond.methodLink RX3 22 yX3_holdsNothing ∈ oh_t := oh_of (i := 339) (by decide +kernel) rfl
theorem q_346 : Cond.static arraycopyName ∈ oh_t := oh_of (i := 346) (by decide +kernel) rfl
theorem q_347 : Cond.native arraycopyName ∈ oh_t := oh_of (i := 347) (by decide +kernel) rfl
theorem q_352 : Cond.methodLink RX6 102 yX3_holdsRow ∈ oh_t := oh_of (i := 352) (by decide +kernel) rfl
theorem q_366 : Cond.methodLink RX6 112 yX6_isBridge ∈ oh_t := oh_of (i := 366) (by decide +kernel) rfl
theorem q_368 : Cond.instanceMethod yX6_isBridge ∈ oh_t := oh_of (i := 368) (by decide +kernel) rfl
theorem q_369 : Cond.code yX6_isBridge cX6_isBridge 2 (some .boolean) ∈ oh_t := oh_of (i := 369) (by decide +kernel) rfl
theorem q_370 : Cond.methodLink RX6 115 yX3_putBridge ∈ oh_t := oh_of (i := 370) (by decide +kernel) rfl
theorem q_371 : Cond.instanceMethod yX3_putBridge ∈ oh_t := oh_of (i := 371) (by decide +kernel) rfl
theorem q_372 : Cond.selects RX3 yX3_putBridge yX3_putBridge ∈ oh_t := oh_of (i := 372) (by decide +kernel) rfl
theorem q_373 : Cond.code yX3_putBridge cX3_putBridge 3 none ∈ oh_t := oh_of (i := 373) (by decide +kernel) rfl
theorem q_413 : Cond.methodLink RX6 126 yX6_isPlace ∈ oh_t := oh_of (i := 413) (by decide +kernel) rfl
theorem q_414 : Cond.static yX6_isPlace ∈ oh_t := oh_of (i := 414) (by decide +kernel) rfl
theorem q_415 : Cond.code yX6_isPlace cX6_isPlace 1 (some .boolean) ∈ oh_t := oh_of (i := 415) (by decide +kernel) rfl
theorem q_416 : Cond.methodLink RX6 129 yX0_hasRoom ∈ oh_t := oh_of (i := 416) (by decide +kernel) rfl
theorem q_417 : Cond.instanceMethod yX0_hasRoom ∈ oh_t := oh_of (i := 417) (by decide +kernel) rfl
theorem q_418 : Cond.selects RX0 yX0_hasRoom yX0_hasRoom ∈ oh_t := oh_of (i := 418) (by decide +kernel) rfl
theorem q_419 : Cond.code yX0_hasRoom cX0_hasRoom 2 (some .boolean) ∈ oh_t := oh_of (i := 419) (by decide +kernel) rfl
theorem q_420 : Cond.methodLink RX6 132 yX0_addRoad ∈ oh_t := oh_of (i := 420) (by decide +kernel) rfl
theorem q_421 : Cond.instanceMethod yX0_addRoad ∈ oh_t := oh_of (i := 421) (by decide +kernel) rfl
theorem q_422 : Cond.selects RX0 yX0_addRoad yX0_addRoad ∈ oh_t := oh_of (i := 422) (by decide +kernel) rfl
theorem q_423 : Cond.code yX0_addRoad cX0_addRoad 8 (some .int) ∈ oh_t := oh_of (i := 423) (by decide +kernel) rfl
theorem q_428 : Cond.methodLink RX6 136 yX6_isRoad ∈ oh_t := oh_of (i := 428) (by decide +kernel) rfl
theorem q_430 : Cond.instanceMethod yX6_isRoad ∈ oh_t := oh_of (i := 430) (by decide +kernel) rfl
theorem q_431 : Cond.code yX6_isRoad cX6_isRoad 2 (some .boolean) ∈ oh_t := oh_of (i := 431) (by decide +kernel) rfl
theorem q_452 : Cond.methodLink RX6 146 yX0_addWaggon ∈ oh_t := oh_of (i := 452) (by decide +kernel) rfl
theorem q_453 : Cond.instanceMethod yX0_addWaggon ∈ oh_t := oh_of (i := 453) (by decide +kernel) rfl
theorem q_454 : Cond.selects RX0 yX0_addWaggon yX0_addWaggon ∈ oh_t := oh_of (i := 454) (by decide +kernel) rfl
theorem q_455 : Cond.code yX0_addWaggon cX0_addWaggon 5 (some .int) ∈ oh_t := oh_of (i := 455) (by decide +kernel) rfl
theorem q_460 : Cond.methodLink RX6 150 yX0_addPart ∈ oh_t := oh_of (i := 460) (by decide +kernel) rfl
theorem q_461 : Cond.instanceMethod yX0_addPart ∈ oh_t := oh_of (i := 461) (by decide +kernel) rfl
theorem q_462 : Cond.selects RX0 yX0_addPart yX0_addPart ∈ oh_t := oh_of (i := 462) (by decide +kernel) rfl
theorem q_463 : Cond.code yX0_addPart cX0_addPart 4 (some .int) ∈ oh_t := oh_of (i := 463) (by decide +kernel) rfl
theorem q_468 : Cond.fieldLink RX6 153 "OneHeavyLoad" "MAX_SETTING" "[I" ∈ oh_t := oh_of (i := 468) (by decide +kernel) rfl
theorem q_487 : Cond.methodLink RX6 174 yX4_append ∈ oh_t := oh_of (i := 487) (by decide +kernel) rfl
theorem q_488 : Cond.instanceMethod yX4_append ∈ oh_t := oh_of (i := 488) (by decide +kernel) rfl
theorem q_489 : Cond.selects RX4 yX4_append yX4_append ∈ oh_t := oh_of (i := 489) (by decide +kernel) rfl
theorem q_490 : Cond.code yX4_append cX4_append 4 none ∈ oh_t := oh_of (i := 490) (by decide +kernel) rfl
theorem q_499 : Cond.methodLink RX6 177 yX2_read ∈ oh_t := oh_of (i := 499) (by decide +kernel) rfl
theorem q_500 : Cond.instanceMethod yX2_read ∈ oh_t := oh_of (i := 500) (by decide +kernel) rfl
theorem q_501 : Cond.selects RX2 yX2_read yX2_read ∈ oh_t := oh_of (i := 501) (by decide +kernel) rfl
theorem q_502 : Cond.code yX2_read cX2_read 2 (some .int) ∈ oh_t := oh_of (i := 502) (by decide +kernel) rfl
theorem q_503 : Cond.methodLink RX2 34 arraycopyName ∈ oh_t := oh_of (i := 503) (by decide +kernel) rfl
theorem q_504 : Cond.methodLink RX2 43 yX4_rewind ∈ oh_t := oh_of (i := 504) (by decide +kernel) rfl
theorem q_505 : Cond.instanceMethod yX4_rewind ∈ oh_t := oh_of (i := 505) (by decide +kernel) rfl
theorem q_506 : Cond.selects RX4 yX4_rewind yX4_rewind ∈ oh_t := oh_of (i := 506) (by decide +kernel) rfl
theorem q_507 : Cond.code yX4_rewind cX4_rewind 1 none ∈ oh_t := oh_of (i := 507) (by decide +kernel) rfl
theorem q_508 : Cond.methodLink RX4 25 yX4_advance ∈ oh_t := oh_of (i := 508) (by decide +kernel) rfl
theorem q_509 : Cond.instanceMethod yX4_advance ∈ oh_t := oh_of (i := 509) (by decide +kernel) rfl
theorem q_510 : Cond.selects RX4 yX4_advance yX4_advance ∈ oh_t := oh_of (i := 510) (by decide +kernel) rfl
theorem q_511 : Cond.code yX4_advance cX4_advance 1 none ∈ oh_t := oh_of (i := 511) (by decide +kernel) rfl
theorem q_512 : Cond.methodLink RX2 48 yX2_readStatement ∈ oh_t := oh_of (i := 512) (by decide +kernel) rfl
theorem q_514 : Cond.instanceMethod yX2_readStatement ∈ oh_t := oh_of (i := 514) (by decide +kernel) rfl
theorem q_515 : Cond.code yX2_readStatement cX2_readStatement 1 none ∈ oh_t := oh_of (i := 515) (by decide +kernel) rfl
theorem q_517 : Cond.methodLink RX2 63 yX4_isWord ∈ oh_t := oh_of (i := 517) (by decide +kernel) rfl
theorem q_518 : Cond.instanceMethod yX4_isWord ∈ oh_t := oh_of (i := 518) (by decide +kernel) rfl
theorem q_519 : Cond.selects RX4 yX4_isWord yX4_isWord ∈ oh_t := oh_of (i := 519) (by decide +kernel) rfl
theorem q_520 : Cond.code yX4_isWord cX4_isWord 3 (some .boolean) ∈ oh_t := oh_of (i := 520) (by decide +kernel) rfl
theorem q_579 : Cond.methodLink RX2 96 yX4_fail ∈ oh_t := oh_of (i := 579) (by decide +kernel) rfl
theorem q_580 : Cond.instanceMethod yX4_fail ∈ oh_t := oh_of (i := 580) (by decide +kernel) rfl
theorem q_581 : Cond.selects RX4 yX4_fail yX4_fail ∈ oh_t := oh_of (i := 581) (by decide +kernel) rfl
theorem q_582 : Cond.code yX4_fail cX4_fail 1 none ∈ oh_t := oh_of (i := 582) (by decide +kernel) rfl
theorem q_592 : Cond.instanceMethod yX4_isSound ∈ oh_t := oh_of (i := 592) (by decide +kernel) rfl
theorem q_593 : Cond.selects RX4 yX4_isSound yX4_isSound ∈ oh_t := oh_of (i := 593) (by decide +kernel) rfl
theorem q_594 : Cond.code yX4_isSound cX4_isSound 1 (some .boolean) ∈ oh_t := oh_of (i := 594) (by decide +kernel) rfl
theorem q_607 : Cond.methodLink RX4 47 yX4_isWord ∈ oh_t := oh_of (i := 607) (by decide +kernel) rfl
theorem q_613 : Cond.methodLink RX2 87 yX4_takeWordIfThere ∈ oh_t := oh_of (i := 613) (by decide +kernel) rfl
theorem q_614 : Cond.instanceMethod yX4_takeWordIfThere ∈ oh_t := oh_of (i := 614) (by decide +kernel) rfl
theorem q_615 : Cond.selects RX4 yX4_takeWordIfThere yX4_takeWordIfThere ∈ oh_t := oh_of (i := 615) (by decide +kernel) rfl
theorem q_616 : Cond.code yX4_takeWordIfThere cX4_takeWordIfThere 3 (some .boolean) ∈ oh_t := oh_of (i := 616) (by decide +kernel) rfl
theorem q_619 : Cond.methodLink RX2 51 yX4_isSound ∈ oh_t := oh_of (i := 619) (by decide +kernel) rfl
theorem q_679 : Cond.methodLink RX6 194 yX6_isWaggon ∈ oh_t := oh_of (i := 679) (by decide +kernel) rfl
theorem q_681 : Cond.instanceMethod yX6_isWaggon ∈ oh_t := oh_of (i := 681) (by decide +kernel) rfl
theorem q_682 : Cond.code yX6_isWaggon cX6_isWaggon 2 (some .boolean) ∈ oh_t := oh_of (i := 682) (by decide +kernel) rfl
theorem q_695 : Cond.methodLink RX6 200 yX6_isPack ∈ oh_t := oh_of (i := 695) (by decide +kernel) rfl
theorem q_697 : Cond.instanceMethod yX6_isPack ∈ oh_t := oh_of (i := 697) (by decide +kernel) rfl
theorem q_698 : Cond.code yX6_isPack cX6_isPack 3 (some .boolean) ∈ oh_t := oh_of (i := 698) (by decide +kernel) rfl
theorem q_776 : Cond.methodLink RX6 238 yX6_isJourney ∈ oh_t := oh_of (i := 776) (by decide +kernel) rfl
theorem q_778 : Cond.instanceMethod yX6_isJourney ∈ oh_t := oh_of (i := 778) (by decide +kernel) rfl
theorem q_779 : Cond.code yX6_isJourney cX6_isJourney 5 (some .boolean) ∈ oh_t := oh_of (i := 779) (by decide +kernel) rfl
theorem q_803 : Cond.constant RX6 255 1000000000 ∈ oh_t := oh_of (i := 803) (by decide +kernel) rfl
theorem q_821 : Cond.methodLink RX6 252 yX6_findBest ∈ oh_t := oh_of (i := 821) (by decide +kernel) rfl
theorem q_823 : Cond.instanceMethod yX6_findBest ∈ oh_t := oh_of (i := 823) (by decide +kernel) rfl
theorem q_824 : Cond.code yX6_findBest cX6_findBest 6 none ∈ oh_t := oh_of (i := 824) (by decide +kernel) rfl
theorem q_830 : Cond.methodLink RX6 256 yX6_whyNotTold ∈ oh_t := oh_of (i := 830) (by decide +kernel) rfl
theorem q_832 : Cond.instanceMethod yX6_whyNotTold ∈ oh_t := oh_of (i := 832) (by decide +kernel) rfl
theorem q_833 : Cond.code yX6_whyNotTold cX6_whyNotTold 7 (some .int) ∈ oh_t := oh_of (i := 833) (by decide +kernel) rfl
theorem q_937 : Cond.methodLink RX6 314 yX0_become ∈ oh_t := oh_of (i := 937) (by decide +kernel) rfl
theorem q_938 : Cond.instanceMethod yX0_become ∈ oh_t := oh_of (i := 938) (by decide +kernel) rfl
theorem q_939 : Cond.selects RX0 yX0_become yX0_become ∈ oh_t := oh_of (i := 939) (by decide +kernel) rfl
theorem q_940 : Cond.code yX0_become cX0_become 2 none ∈ oh_t := oh_of (i := 940) (by decide +kernel) rfl
theorem q_941 : Cond.methodLink RX0 40 arraycopyName ∈ oh_t := oh_of (i := 941) (by decide +kernel) rfl
theorem q_955 : Cond.methodLink RX6 320 yX3_countHeld ∈ oh_t := oh_of (i := 955) (by decide +kernel) rfl
theorem q_956 : Cond.instanceMethod yX3_countHeld ∈ oh_t := oh_of (i := 956) (by decide +kernel) rfl
theorem q_957 : Cond.selects RX3 yX3_countHeld yX3_countHeld ∈ oh_t := oh_of (i := 957) (by decide +kernel) rfl
theorem q_958 : Cond.code yX3_countHeld cX3_countHeld 3 (some .int) ∈ oh_t := oh_of (i := 958) (by decide +kernel) rfl
theorem q_959 : Cond.methodLink RX6 323 yX0_countBridges ∈ oh_t := oh_of (i := 959) (by decide +kernel) rfl
theorem q_960 : Cond.instanceMethod yX0_countBridges ∈ oh_t := oh_of (i := 960) (by decide +kernel) rfl
theorem q_961 : Cond.selects RX0 yX0_countBridges yX0_countBridges ∈ oh_t := oh_of (i := 961) (by decide +kernel) rfl
theorem q_962 : Cond.code yX0_countBridges cX0_countBridges 4 (some .int) ∈ oh_t := oh_of (i := 962) (by decide +kernel) rfl
theorem pdVX0_addPart : yX0_addPart.cls = RX0 ∧ yX0_addPart.cls ≠ "java/lang/invoke/MethodHandle" ∧ yX0_addPart.cls ≠ "java/lang/invoke/VarHandle" ∧ (parseMethodDescriptor yX0_addPart.desc).map (fun d => d.parameters.length) = some 2 := by decide +kernel
theorem pdVX0_addRoad : yX0_addRoad.cls = RX0 ∧ yX0_addRoad.cls ≠ "java/lang/invoke/MethodHandle" ∧ yX0_addRoad.cls ≠ "java/lang/invoke/VarHandle" ∧ (parseMethodDescriptor yX0_addRoad.desc).map (fun d => d.parameters.length) = some 6 := by decide +kernel
theorem pdVX0_addWaggon : yX0_addWaggon.cls = RX0 ∧ yX0_addWaggon.cls ≠ "java/lang/invoke/MethodHandle" ∧ yX0_addWaggon.cls ≠ "java/lang/invoke/VarHandle" ∧ (parseMethodDescriptor yX0_addWaggon.desc).map (fun d => d.parameters.length) = some 3 := by decide +kernel
theorem pdVX0_become : yX0_become.cls = RX0 ∧ yX0_become.cls ≠ "java/lang/invoke/MethodHandle" ∧ yX0_become.cls ≠ "java/lang/invoke/VarHandle" ∧ (parseMethodDescriptor yX0_become.desc).map (fun d => d.parameters.length) = some 1 := by decide +kernel
theorem pdVX0_countBridges : yX0_countBridges.cls = RX0 ∧ yX0_countBridges.cls ≠ "java/lang/invoke/MethodHandle" ∧ yX0_countBridges.cls ≠ "java/lang/invoke/VarHandle" ∧ (parseMethodDescriptor yX0_countBridges.desc).map (fun d => d.parameters.length) = some 1 := by decide +kernel
theorem pdVX0_hasRoom : yX0_hasRoom.cls = RX0 ∧ yX0_hasRoom.cls ≠ "java/lang/invoke/MethodHandle" ∧ yX0_hasRoom.cls ≠ "java/lang/invoke/VarHandle" ∧ (parseMethodDescriptor yX0_hasRoom.desc).map (fun d => d.parameters.length) = some 1 := by decide +kernel
theorem pdVX2_read : yX2_read.cls = RX2 ∧ yX2_read.cls ≠ "java/lang/invoke/MethodHandle" ∧ yX2_read.cls ≠ "java/lang/invoke/VarHandle" ∧ (parseMethodDescriptor yX2_read.desc).map (fun d => d.parameters.length) = some 0 := by decide +kernel
theorem pdVX2_readStatement : yX2_readStatement.cls = RX2 ∧ yX2_readStatement.cls ≠ "java/lang/invoke/MethodHandle" ∧ yX2_readStatement.cls ≠ "java/lang/invoke/VarHandle" ∧ (parseMethodDescriptor yX2_readStatement.desc).map (fun d => d.parameters.length) = some 0 := by decide +kernel
theorem pdVX3_countHeld : yX3_countHeld.cls = RX3 ∧ yX3_countHeld.cls ≠ "java/lang/invoke/MethodHandle" ∧ yX3_countHeld.cls ≠ "java/lang/invoke/VarHandle" ∧ (parseMethodDescriptor yX3_countHeld.desc).map (fun d => d.parameters.length) = some 0 := by decide +kernel
theorem pdVX3_holdsBridge : yX3_holdsBridge.cls = RX3 ∧ yX3_holdsBridge.cls ≠ "java/lang/invoke/MethodHandle" ∧ yX3_holdsBridge.cls ≠ "java/lang/invoke/VarHandle" ∧ (parseMethodDescriptor yX3_holdsBridge.desc).map (fun d => d.parameters.length) = some 1 := by decide +kernel
theorem pdVX3_holdsNothing : yX3_holdsNothing.cls = RX3 ∧ yX3_holdsNothing.cls ≠ "java/lang/invoke/MethodHandle" ∧ yX3_holdsNothing.cls ≠ "java/lang/invoke/VarHandle" ∧ (parseMethodDescriptor yX3_holdsNothing.desc).map (fun d => d.parameters.length) = some 1 := by decide +kernel
theorem pdVX3_holdsRow : yX3_holdsRow.cls = RX3 ∧ yX3_holdsRow.cls ≠ "java/lang/invoke/MethodHandle" ∧ yX3_holdsRow.cls ≠ "java/lang/invoke/VarHandle" ∧ (parseMethodDescriptor yX3_holdsRow.desc).map (fun d => d.parameters.length) = some 1 := by decide +kernel
theorem pdVX3_holdsUnlikeRows : yX3_holdsUnlikeRows.cls = RX3 ∧ yX3_holdsUnlikeRows.cls ≠ "java/lang/invoke/MethodHandle" ∧ yX3_holdsUnlikeRows.cls ≠ "java/lang/invoke/VarHandle" ∧ (parseMethodDescriptor yX3_holdsUnlikeRows.desc).map (fun d => d.parameters.length) = some 2 := by decide +kernel
theorem pdVX3_putBridge : yX3_putBridge.cls = RX3 ∧ yX3_putBridge.cls ≠ "java/lang/invoke/MethodHandle" ∧ yX3_putBridge.cls ≠ "java/lang/invoke/VarHandle" ∧ (parseMethodDescriptor yX3_putBridge.desc).map (fun d => d.parameters.length) = some 2 := by decide +kernel
theorem pdVX4_advance : yX4_advance.cls = RX4 ∧ yX4_advance.cls ≠ "java/lang/invoke/MethodHandle" ∧ yX4_advance.cls ≠ "java/lang/invoke/VarHandle" ∧ (parseMethodDescriptor yX4_advance.desc).map (fun d => d.parameters.length) = some 0 := by decide +kernel
theorem pdVX4_append : yX4_append.cls = RX4 ∧ yX4_append.cls ≠ "java/lang/invoke/MethodHandle" ∧ yX4_append.cls ≠ "java/lang/invoke/VarHandle" ∧ (parseMethodDescriptor yX4_append.desc).map (fun d => d.parameters.length) = some 2 := by decide +kernel
theorem pdVX4_fail : yX4_fail.cls = RX4 ∧ yX4_fail.cls ≠ "java/lang/invoke/MethodHandle" ∧ yX4_fail.cls ≠ "java/lang/invoke/VarHandle" ∧ (parseMethodDescriptor yX4_fail.desc).map (fun d => d.parameters.length) = some 0 := by decide +kernel
theorem pdVX4_isSound : yX4_isSound.cls = RX4 ∧ yX4_isSound.cls ≠ "java/lang/invoke/MethodHandle" ∧ yX4_isSound.cls ≠ "java/lang/invoke/VarHandle" ∧ (parseMethodDescriptor yX4_isSound.desc).map (fun d => d.parameters.length) = some 0 := by decide +kernel
theorem pdVX4_isWord : yX4_isWord.cls = RX4 ∧ yX4_isWord.cls ≠ "java/lang/invoke/MethodHandle" ∧ yX4_isWord.cls ≠ "java/lang/invoke/VarHandle" ∧ (parseMethodDescriptor yX4_isWord.desc).map (fun d => d.parameters.length) = some 1 := by decide +kernel
theorem pdVX4_rewind : yX4_rewind.cls = RX4 ∧ yX4_rewind.cls ≠ "java/lang/invoke/MethodHandle" ∧ yX4_rewind.cls ≠ "java/lang/invoke/VarHandle" ∧ (parseMethodDescriptor yX4_rewind.desc).map (fun d => d.parameters.length) = some 0 := by decide +kernel
theorem pdVX4_takeWordIfThere : yX4_takeWordIfThere.cls = RX4 ∧ yX4_takeWordIfThere.cls ≠ "java/lang/invoke/MethodHandle" ∧ yX4_takeWordIfThere.cls ≠ "java/lang/invoke/VarHandle" ∧ (parseMethodDescriptor yX4_takeWordIfThere.desc).map (fun d => d.parameters.length) = some 1 := by decide +kernel
theorem pdVX6_findBest : yX6_findBest.cls = RX6 ∧ yX6_findBest.cls ≠ "java/lang/invoke/MethodHandle" ∧ yX6_findBest.cls ≠ "java/lang/invoke/VarHandle" ∧ (parseMethodDescriptor yX6_findBest.desc).map (fun d => d.parameters.length) = some 2 := by decide +kernel
theorem pdVX6_isBridge : yX6_isBridge.cls = RX6 ∧ yX6_isBridge.cls ≠ "java/lang/invoke/MethodHandle" ∧ yX6_isBridge.cls ≠ "java/lang/invoke/VarHandle" ∧ (parseMethodDescriptor yX6_isBridge.desc).map (fun d => d.parameters.length) = some 1 := by decide +kernel
theorem pdVX6_isJourney : yX6_isJourney.cls = RX6 ∧ yX6_isJourney.cls ≠ "java/lang/invoke/MethodHandle" ∧ yX6_isJourney.cls ≠ "java/lang/invoke/VarHandle" ∧ (parseMethodDescriptor yX6_isJourney.desc).map (fun d => d.parameters.length) = some 4 := by decide +kernel
theorem pdVX6_isPack : yX6_isPack.cls = RX6 ∧ yX6_isPack.cls ≠ "java/lang/invoke/MethodHandle" ∧ yX6_isPack.cls ≠ "java/lang/invoke/VarHandle" ∧ (parseMethodDescriptor yX6_isPack.desc).map (fun d => d.parameters.length) = some 2 := by decide +kernel
theorem pdX6_isPlace : yX6_isPlace.cls ≠ "java/lang/invoke/MethodHandle" ∧ yX6_isPlace.cls ≠ "java/lang/invoke/VarHandle" ∧ (parseMethodDescriptor yX6_isPlace.desc).map (fun d => d.parameters.length) = some 1 := by decide +kernel
theorem pdVX6_isRoad : yX6_isRoad.cls = RX6 ∧ yX6_isRoad.cls ≠ "java/lang/invoke/MethodHandle" ∧ yX6_isRoad.cls ≠ "java/lang/invoke/VarHandle" ∧ (parseMethodDescriptor yX6_isRoad.desc).map (fun d => d.parameters.length) = some 1 := by decide +kernel
theorem pdX6_isShelf : yX6_isShelf.cls ≠ "java/lang/invoke/MethodHandle" ∧ yX6_isShelf.cls ≠ "java/lang/invoke/VarHandle" ∧ (parseMethodDescriptor yX6_isShelf.desc).map (fun d => d.parameters.length) = some 1 := by decide +kernel
theorem pdVX6_isWaggon : yX6_isWaggon.cls = RX6 ∧ yX6_isWaggon.cls ≠ "java/lang/invoke/MethodHandle" ∧ yX6_isWaggon.cls ≠ "java/lang/invoke/VarHandle" ∧ (parseMethodDescriptor yX6_isWaggon.desc).map (fun d => d.parameters.length) = some 1 := by decide +kernel
theorem pdVX6_refuse : yX6_refuse.cls = RX6 ∧ yX6_refuse.cls ≠ "java/lang/invoke/MethodHandle" ∧ yX6_refuse.cls ≠ "java/lang/invoke/VarHandle" ∧ (parseMethodDescriptor yX6_refuse.desc).map (fun d => d.parameters.length) = some 1 := by decide +kernel
theorem pdVX6_whyNoRow : yX6_whyNoRow.cls = RX6 ∧ yX6_whyNoRow.cls ≠ "java/lang/invoke/MethodHandle" ∧ yX6_whyNoRow.cls ≠ "java/lang/invoke/VarHandle" ∧ (parseMethodDescriptor yX6_whyNoRow.desc).map (fun d => d.parameters.length) = some 1 := by decide +kernel
theorem pdVX6_whyNotTold : yX6_whyNotTold.cls = RX6 ∧ yX6_whyNotTold.cls ≠ "java/lang/invoke/MethodHandle" ∧ yX6_whyNotTold.cls ≠ "java/lang/invoke/VarHandle" ∧ (parseMethodDescriptor yX6_whyNotTold.desc).map (fun d => d.parameters.length) = some 5 := by decide +kernel
theorem pdX6_within : yX6_within.cls ≠ "java/lang/invoke/MethodHandle" ∧ yX6_within.cls ≠ "java/lang/invoke/VarHandle" ∧ (parseMethodDescriptor yX6_within.desc).map (fun d => d.parameters.length) = some 3 := by decide +kernel
end
section
theorem dX0_addPart_0 : decode cX0_addPart 0 = .ok (.aload_n 0, 1) := by decide +kernel
theorem dX0_addPart_1 : decode cX0_addPart 1 = .ok (.getfield 13, 3) := by decide +kernel
theorem dX0_addPart_4 : decode cX0_addPart 4 = .ok (.iconst 3, 1) := by decide +kernel
theorem dX0_addPart_5 : decode cX0_addPart 5 = .ok (.iaload, 1) := by decide +kernel
theorem dX0_addPart_6 : decode cX0_addPart 6 = .ok (.iconst 2, 1) := by decide +kernel
theorem dX0_addPart_7 : decode cX0_addPart 7 = .ok (.imul, 1) := by decide +kernel
theorem dX0_addPart_8 : decode cX0_addPart 8 = .ok (.istore_n 3, 1) := by decide +kernel
theorem dX0_addPart_9 : decode cX0_addPart 9 = .ok (.aload_n 0, 1) := by decide +kernel
theorem dX0_addPart_10 : decode cX0_addPart 10 = .ok (.getfield 27, 3) := by decide +kernel
theorem dX0_addPart_13 : decode cX0_addPart 13 = .ok (.iload_n 3, 1) := by decide +kernel
theorem dX0_addPart_14 : decode cX0_addPart 14 = .ok (.iconst 0, 1) := by decide +kernel
theorem dX0_addPart_15 : decode cX0_addPart 15 = .ok (.iadd, 1) := by decide +kernel
theorem dX0_addPart_16 : decode cX0_addPart 16 = .ok (.iload_n 1, 1) := by decide +kernel
theorem dX0_addPart_17 : decode cX0_addPart 17 = .ok (.iastore, 1) := by decide +kernel
theorem dX0_addPart_18 : decode cX0_addPart 18 = .ok (.aload_n 0, 1) := by decide +kernel
theorem dX0_addPart_19 : decode cX0_addPart 19 = .ok (.getfield 27, 3) := by decide +kernel
theorem dX0_addPart_22 : decode cX0_addPart 22 = .ok (.iload_n 3, 1) := by decide +kernel
theorem dX0_addPart_23 : decode cX0_addPart 23 = .ok (.iconst 1, 1) := by decide +kernel
theorem dX0_addPart_24 : decode cX0_addPart 24 = .ok (.iadd, 1) := by decide +kernel
theorem dX0_addPart_25 : decode cX0_addPart 25 = .ok (.iload_n 2, 1) := by decide +kernel
theorem dX0_addPart_26 : decode cX0_addPart 26 = .ok (.iastore, 1) := by decide +kernel
theorem dX0_addPart_27 : decode cX0_addPart 27 = .ok (.aload_n 0, 1) := by decide +kernel
theorem dX0_addPart_28 : decode cX0_addPart 28 = .ok (.getfield 13, 3) := by decide +kernel
theorem dX0_addPart_31 : decode cX0_addPart 31 = .ok (.iconst 3, 1) := by decide +kernel
theorem dX0_addPart_32 : decode cX0_addPart 32 = .ok (.dup2, 1) := by decide +kernel
theorem dX0_addPart_33 : decode cX0_addPart 33 = .ok (.iaload, 1) := by decide +kernel
theorem dX0_addPart_34 : decode cX0_addPart 34 = .ok (.dup_x2, 1) := by decide +kernel
theorem dX0_addPart_35 : decode cX0_addPart 35 = .ok (.iconst 1, 1) := by decide +kernel
theorem dX0_addPart_36 : decode cX0_addPart 36 = .ok (.iadd, 1) := by decide +kernel
theorem dX0_addPart_37 : decode cX0_addPart 37 = .ok (.iastore, 1) := by decide +kernel
theorem dX0_addPart_38 : decode cX0_addPart 38 = .ok (.ireturn, 1) := by decide +kernel
theorem dX0_addRoad_0 : decode cX0_addRoad 0 = .ok (.aload_n 0, 1) := by decide +kernel
theorem dX0_addRoad_1 : decode cX0_addRoad 1 = .ok (.getfield 13, 3) := by decide +kernel
theorem dX0_addRoad_4 : decode cX0_addRoad 4 = .ok (.iconst 0, 1) := by decide +kernel
theorem dX0_addRoad_5 : decode cX0_addRoad 5 = .ok (.iaload, 1) := by decide +kernel
theorem dX0_addRoad_6 : decode cX0_addRoad 6 = .ok (.bipush 7, 2) := by decide +kernel
theorem dX0_addRoad_8 : decode cX0_addRoad 8 = .ok (.imul, 1) := by decide +kernel
theorem dX0_addRoad_9 : decode cX0_addRoad 9 = .ok (.istore 7, 2) := by decide +kernel
theorem dX0_addRoad_11 : decode cX0_addRoad 11 = .ok (.aload_n 0, 1) := by decide +kernel
theorem dX0_addRoad_12 : decode cX0_addRoad 12 = .ok (.getfield 18, 3) := by decide +kernel
theorem dX0_addRoad_15 : decode cX0_addRoad 15 = .ok (.iload 7, 2) := by decide +kernel
theorem dX0_addRoad_17 : decode cX0_addRoad 17 = .ok (.iconst 0, 1) := by decide +kernel
theorem dX0_addRoad_18 : decode cX0_addRoad 18 = .ok (.iadd, 1) := by decide +kernel
theorem dX0_addRoad_19 : decode cX0_addRoad 19 = .ok (.iload_n 1, 1) := by decide +kernel
theorem dX0_addRoad_20 : decode cX0_addRoad 20 = .ok (.iastore, 1) := by decide +kernel
theorem dX0_addRoad_21 : decode cX0_addRoad 21 = .ok (.aload_n 0, 1) := by decide +kernel
theorem dX0_addRoad_22 : decode cX0_addRoad 22 = .ok (.getfield 18, 3) := by decide +kernel
theorem dX0_addRoad_25 : decode cX0_addRoad 25 = .ok (.iload 7, 2) := by decide +kernel
theorem dX0_addRoad_27 : decode cX0_addRoad 27 = .ok (.iconst 1, 1) := by decide +kernel
theorem dX0_addRoad_28 : decode cX0_addRoad 28 = .ok (.iadd, 1) := by decide +kernel
theorem dX0_addRoad_29 : decode cX0_addRoad 29 = .ok (.iload_n 2, 1) := by decide +kernel
theorem dX0_addRoad_30 : decode cX0_addRoad 30 = .ok (.iastore, 1) := by decide +kernel
theorem dX0_addRoad_31 : decode cX0_addRoad 31 = .ok (.aload_n 0, 1) := by decide +kernel
theorem dX0_addRoad_32 : decode cX0_addRoad 32 = .ok (.getfield 18, 3) := by decide +kernel
theorem dX0_addRoad_35 : decode cX0_addRoad 35 = .ok (.iload 7, 2) := by decide +kernel
theorem dX0_addRoad_37 : decode cX0_addRoad 37 = .ok (.iconst 2, 1) := by decide +kernel
theorem dX0_addRoad_38 : decode cX0_addRoad 38 = .ok (.iadd, 1) := by decide +kernel
theorem dX0_addRoad_39 : decode cX0_addRoad 39 = .ok (.iload_n 3, 1) := by decide +kernel
theorem dX0_addRoad_40 : decode cX0_addRoad 40 = .ok (.iastore, 1) := by decide +kernel
theorem dX0_addRoad_41 : decode cX0_addRoad 41 = .ok (.aload_n 0, 1) := by decide +kernel
theorem dX0_addRoad_42 : decode cX0_addRoad 42 = .ok (.getfield 18, 3) := by decide +kernel
theorem dX0_addRoad_45 : decode cX0_addRoad 45 = .ok (.iload 7, 2) := by decide +kernel
theorem dX0_addRoad_47 : decode cX0_addRoad 47 = .ok (.iconst 3, 1) := by decide +kernel
theorem dX0_addRoad_48 : decode cX0_addRoad 48 = .ok (.iadd, 1) := by decide +kernel
theorem dX0_addRoad_49 : decode cX0_addRoad 49 = .ok (.iload 4, 2) := by decide +kernel
theorem dX0_addRoad_51 : decode cX0_addRoad 51 = .ok (.iastore, 1) := by decide +kernel
theorem dX0_addRoad_52 : decode cX0_addRoad 52 = .ok (.aload_n 0, 1) := by decide +kernel
theorem dX0_addRoad_53 : decode cX0_addRoad 53 = .ok (.getfield 18, 3) := by decide +kernel
theorem dX0_addRoad_56 : decode cX0_addRoad 56 = .ok (.iload 7, 2) := by decide +kernel
theorem dX0_addRoad_58 : decode cX0_addRoad 58 = .ok (.iconst 4, 1) := by decide +kernel
theorem dX0_addRoad_59 : decode cX0_addRoad 59 = .ok (.iadd, 1) := by decide +kernel
theorem dX0_addRoad_60 : decode cX0_addRoad 60 = .ok (.iload 5, 2) := by decide +kernel
theorem dX0_addRoad_62 : decode cX0_addRoad 62 = .ok (.iastore, 1) := by decide +kernel
theorem dX0_addRoad_63 : decode cX0_addRoad 63 = .ok (.aload_n 0, 1) := by decide +kernel
theorem dX0_addRoad_64 : decode cX0_addRoad 64 = .ok (.getfield 18, 3) := by decide +kernel
theorem dX0_addRoad_67 : decode cX0_addRoad 67 = .ok (.iload 7, 2) := by decide +kernel
theorem dX0_addRoad_69 : decode cX0_addRoad 69 = .ok (.iconst 5, 1) := by decide +kernel
theorem dX0_addRoad_70 : decode cX0_addRoad 70 = .ok (.iadd, 1) := by decide +kernel
theorem dX0_addRoad_71 : decode cX0_addRoad 71 = .ok (.iload 6, 2) := by decide +kernel
theorem dX0_addRoad_73 : decode cX0_addRoad 73 = .ok (.iastore, 1) := by decide +kernel
theorem dX0_addRoad_74 : decode cX0_addRoad 74 = .ok (.aload_n 0, 1) := by decide +kernel
theorem dX0_addRoad_75 : decode cX0_addRoad 75 = .ok (.getfield 18, 3) := by decide +kernel
theorem dX0_addRoad_78 : decode cX0_addRoad 78 = .ok (.iload 7, 2) := by decide +kernel
theorem dX0_addRoad_80 : decode cX0_addRoad 80 = .ok (.bipush 6, 2) := by decide +kernel
theorem dX0_addRoad_82 : decode cX0_addRoad 82 = .ok (.iadd, 1) := by decide +kernel
theorem dX0_addRoad_83 : decode cX0_addRoad 83 = .ok (.iconst 0, 1) := by decide +kernel
theorem dX0_addRoad_84 : decode cX0_addRoad 84 = .ok (.iastore, 1) := by decide +kernel
theorem dX0_addRoad_85 : decode cX0_addRoad 85 = .ok (.aload_n 0, 1) := by decide +kernel
theorem dX0_addRoad_86 : decode cX0_addRoad 86 = .ok (.getfield 13, 3) := by decide +kernel
theorem dX0_addRoad_89 : decode cX0_addRoad 89 = .ok (.iconst 0, 1) := by decide +kernel
theorem dX0_addRoad_90 : decode cX0_addRoad 90 = .ok (.dup2, 1) := by decide +kernel
theorem dX0_addRoad_91 : decode cX0_addRoad 91 = .ok (.iaload, 1) := by decide +kernel
theorem dX0_addRoad_92 : decode cX0_addRoad 92 = .ok (.dup_x2, 1) := by decide +kernel
theorem dX0_addRoad_93 : decode cX0_addRoad 93 = .ok (.iconst 1, 1) := by decide +kernel
theorem dX0_addRoad_94 : decode cX0_addRoad 94 = .ok (.iadd, 1) := by decide +kernel
theorem dX0_addRoad_95 : decode cX0_addRoad 95 = .ok (.iastore, 1) := by decide +kernel
theorem dX0_addRoad_96 : decode cX0_addRoad 96 = .ok (.ireturn, 1) := by decide +kernel
theorem dX0_addWaggon_0 : decode cX0_addWaggon 0 = .ok (.aload_n 0, 1) := by decide +kernel
theorem dX0_addWaggon_1 : decode cX0_addWaggon 1 = .ok (.getfield 13, 3) := by decide +kernel
theorem dX0_addWaggon_4 : decode cX0_addWaggon 4 = .ok (.iconst 2, 1) := by decide +kernel
theorem dX0_addWaggon_5 : decode cX0_addWaggon 5 = .ok (.iaload, 1) := by decide +kernel
theorem dX0_addWaggon_6 : decode cX0_addWaggon 6 = .ok (.iconst 3, 1) := by decide +kernel
theorem dX0_addWaggon_7 : decode cX0_addWaggon 7 = .ok (.imul, 1) := by decide +kernel
theorem dX0_addWaggon_8 : decode cX0_addWaggon 8 = .ok (.istore 4, 2) := by decide +kernel
theorem dX0_addWaggon_10 : decode cX0_addWaggon 10 = .ok (.aload_n 0, 1) := by decide +kernel
theorem dX0_addWaggon_11 : decode cX0_addWaggon 11 = .ok (.getfield 24, 3) := by decide +kernel
theorem dX0_addWaggon_14 : decode cX0_addWaggon 14 = .ok (.iload 4, 2) := by decide +kernel
theorem dX0_addWaggon_16 : decode cX0_addWaggon 16 = .ok (.iconst 0, 1) := by decide +kernel
theorem dX0_addWaggon_17 : decode cX0_addWaggon 17 = .ok (.iadd, 1) := by decide +kernel
theorem dX0_addWaggon_18 : decode cX0_addWaggon 18 = .ok (.iload_n 1, 1) := by decide +kernel
theorem dX0_addWaggon_19 : decode cX0_addWaggon 19 = .ok (.iastore, 1) := by decide +kernel
theorem dX0_addWaggon_20 : decode cX0_addWaggon 20 = .ok (.aload_n 0, 1) := by decide +kernel
theorem dX0_addWaggon_21 : decode cX0_addWaggon 21 = .ok (.getfield 24, 3) := by decide +kernel
theorem dX0_addWaggon_24 : decode cX0_addWaggon 24 = .ok (.iload 4, 2) := by decide +kernel
theorem dX0_addWaggon_26 : decode cX0_addWaggon 26 = .ok (.iconst 1, 1) := by decide +kernel
theorem dX0_addWaggon_27 : decode cX0_addWaggon 27 = .ok (.iadd, 1) := by decide +kernel
theorem dX0_addWaggon_28 : decode cX0_addWaggon 28 = .ok (.iload_n 2, 1) := by decide +kernel
theorem dX0_addWaggon_29 : decode cX0_addWaggon 29 = .ok (.iastore, 1) := by decide +kernel
theorem dX0_addWaggon_30 : decode cX0_addWaggon 30 = .ok (.aload_n 0, 1) := by decide +kernel
theorem dX0_addWaggon_31 : decode cX0_addWaggon 31 = .ok (.getfield 24, 3) := by decide +kernel
theorem dX0_addWaggon_34 : decode cX0_addWaggon 34 = .ok (.iload 4, 2) := by decide +kernel
theorem dX0_addWaggon_36 : decode cX0_addWaggon 36 = .ok (.iconst 2, 1) := by decide +kernel
theorem dX0_addWaggon_37 : decode cX0_addWaggon 37 = .ok (.iadd, 1) := by decide +kernel
theorem dX0_addWaggon_38 : decode cX0_addWaggon 38 = .ok (.iload_n 3, 1) := by decide +kernel
theorem dX0_addWaggon_39 : decode cX0_addWaggon 39 = .ok (.iastore, 1) := by decide +kernel
theorem dX0_addWaggon_40 : decode cX0_addWaggon 40 = .ok (.aload_n 0, 1) := by decide +kernel
theorem dX0_addWaggon_41 : decode cX0_addWaggon 41 = .ok (.getfield 13, 3) := by decide +kernel
theorem dX0_addWaggon_44 : decode cX0_addWaggon 44 = .ok (.iconst 2, 1) := by decide +kernel
theorem dX0_addWaggon_45 : decode cX0_addWaggon 45 = .ok (.dup2, 1) := by decide +kernel
theorem dX0_addWaggon_46 : decode cX0_addWaggon 46 = .ok (.iaload, 1) := by decide +kernel
theorem dX0_addWaggon_47 : decode cX0_addWaggon 47 = .ok (.dup_x2, 1) := by decide +kernel
theorem dX0_addWaggon_48 : decode cX0_addWaggon 48 = .ok (.iconst 1, 1) := by decide +kernel
theorem dX0_addWaggon_49 : decode cX0_addWaggon 49 = .ok (.iadd, 1) := by decide +kernel
theorem dX0_addWaggon_50 : decode cX0_addWaggon 50 = .ok (.iastore, 1) := by decide +kernel
theorem dX0_addWaggon_51 : decode cX0_addWaggon 51 = .ok (.ireturn, 1) := by decide +kernel
theorem dX0_become_0 : decode cX0_become 0 = .ok (.aload_n 1, 1) := by decide +kernel
theorem dX0_become_1 : decode cX0_become 1 = .ok (.getfield 13, 3) := by decide +kernel
theorem dX0_become_4 : decode cX0_become 4 = .ok (.iconst 0, 1) := by decide +kernel
theorem dX0_become_5 : decode cX0_become 5 = .ok (.aload_n 0, 1) := by decide +kernel
theorem dX0_become_6 : decode cX0_become 6 = .ok (.getfield 13, 3) := by decide +kernel
theorem dX0_become_9 : decode cX0_become 9 = .ok (.iconst 0, 1) := by decide +kernel
theorem dX0_become_10 : decode cX0_become 10 = .ok (.aload_n 0, 1) := by decide +kernel
theorem dX0_become_11 : decode cX0_become 11 = .ok (.getfield 13, 3) := by decide +kernel
theorem dX0_become_14 : decode cX0_become 14 = .ok (.arraylength, 1) := by decide +kernel
theorem dX0_become_15 : decode cX0_become 15 = .ok (.invokestatic 40, 3) := by decide +kernel
theorem dX0_become_18 : decode cX0_become 18 = .ok (.aload_n 1, 1) := by decide +kernel
theorem dX0_become_19 : decode cX0_become 19 = .ok (.getfield 18, 3) := by decide +kernel
theorem dX0_become_22 : decode cX0_become 22 = .ok (.iconst 0, 1) := by decide +kernel
theorem dX0_become_23 : decode cX0_become 23 = .ok (.aload_n 0, 1) := by decide +kernel
theorem dX0_become_24 : decode cX0_become 24 = .ok (.getfield 18, 3) := by decide +kernel
theorem dX0_become_27 : decode cX0_become 27 = .ok (.iconst 0, 1) := by decide +kernel
theorem dX0_become_28 : decode cX0_become 28 = .ok (.aload_n 0, 1) := by decide +kernel
theorem dX0_become_29 : decode cX0_become 29 = .ok (.getfield 18, 3) := by decide +kernel
theorem dX0_become_32 : decode cX0_become 32 = .ok (.arraylength, 1) := by decide +kernel
theorem dX0_become_33 : decode cX0_become 33 = .ok (.invokestatic 40, 3) := by decide +kernel
theorem dX0_become_36 : decode cX0_become 36 = .ok (.aload_n 1, 1) := by decide +kernel
theorem dX0_become_37 : decode cX0_become 37 = .ok (.getfield 21, 3) := by decide +kernel
theorem dX0_become_40 : decode cX0_become 40 = .ok (.iconst 0, 1) := by decide +kernel
theorem dX0_become_41 : decode cX0_become 41 = .ok (.aload_n 0, 1) := by decide +kernel
theorem dX0_become_42 : decode cX0_become 42 = .ok (.getfield 21, 3) := by decide +kernel
theorem dX0_become_45 : decode cX0_become 45 = .ok (.iconst 0, 1) := by decide +kernel
theorem dX0_become_46 : decode cX0_become 46 = .ok (.aload_n 0, 1) := by decide +kernel
theorem dX0_become_47 : decode cX0_become 47 = .ok (.getfield 21, 3) := by decide +kernel
theorem dX0_become_50 : decode cX0_become 50 = .ok (.arraylength, 1) := by decide +kernel
theorem dX0_become_51 : decode cX0_become 51 = .ok (.invokestatic 40, 3) := by decide +kernel
theorem dX0_become_54 : decode cX0_become 54 = .ok (.aload_n 1, 1) := by decide +kernel
theorem dX0_become_55 : decode cX0_become 55 = .ok (.getfield 24, 3) := by decide +kernel
theorem dX0_become_58 : decode cX0_become 58 = .ok (.iconst 0, 1) := by decide +kernel
theorem dX0_become_59 : decode cX0_become 59 = .ok (.aload_n 0, 1) := by decide +kernel
theorem dX0_become_60 : decode cX0_become 60 = .ok (.getfield 24, 3) := by decide +kernel
theorem dX0_become_63 : decode cX0_become 63 = .ok (.iconst 0, 1) := by decide +kernel
theorem dX0_become_64 : decode cX0_become 64 = .ok (.aload_n 0, 1) := by decide +kernel
theorem dX0_become_65 : decode cX0_become 65 = .ok (.getfield 24, 3) := by decide +kernel
theorem dX0_become_68 : decode cX0_become 68 = .ok (.arraylength, 1) := by decide +kernel
theorem dX0_become_69 : decode cX0_become 69 = .ok (.invokestatic 40, 3) := by decide +kernel
theorem dX0_become_72 : decode cX0_become 72 = .ok (.aload_n 1, 1) := by decide +kernel
theorem dX0_become_73 : decode cX0_become 73 = .ok (.getfield 27, 3) := by decide +kernel
theorem dX0_become_76 : decode cX0_become 76 = .ok (.iconst 0, 1) := by decide +kernel
theorem dX0_become_77 : decode cX0_become 77 = .ok (.aload_n 0, 1) := by decide +kernel
theorem dX0_become_78 : decode cX0_become 78 = .ok (.getfield 27, 3) := by decide +kernel
theorem dX0_become_81 : decode cX0_become 81 = .ok (.iconst 0, 1) := by decide +kernel
theorem dX0_become_82 : decode cX0_become 82 = .ok (.aload_n 0, 1) := by decide +kernel
theorem dX0_become_83 : decode cX0_become 83 = .ok (.getfield 27, 3) := by decide +kernel
theorem dX0_become_86 : decode cX0_become 86 = .ok (.arraylength, 1) := by decide +kernel
theorem dX0_become_87 : decode cX0_become 87 = .ok (.invokestatic 40, 3) := by decide +kernel
theorem dX0_become_90 : decode cX0_become 90 = .ok (.aload_n 1, 1) := by decide +kernel
theorem dX0_become_91 : decode cX0_become 91 = .ok (.getfield 30, 3) := by decide +kernel
theorem dX0_become_94 : decode cX0_become 94 = .ok (.iconst 0, 1) := by decide +kernel
theorem dX0_become_95 : decode cX0_become 95 = .ok (.aload_n 0, 1) := by decide +kernel
theorem dX0_become_96 : decode cX0_become 96 = .ok (.getfield 30, 3) := by decide +kernel
theorem dX0_become_99 : decode cX0_become 99 = .ok (.iconst 0, 1) := by decide +kernel
theorem dX0_become_100 : decode cX0_become 100 = .ok (.aload_n 0, 1) := by decide +kernel
theorem dX0_become_101 : decode cX0_become 101 = .ok (.getfield 30, 3) := by decide +kernel
theorem dX0_become_104 : decode cX0_become 104 = .ok (.arraylength, 1) := by decide +kernel
theorem dX0_become_105 : decode cX0_become 105 = .ok (.invokestatic 40, 3) := by decide +kernel
theorem dX0_become_108 : decode cX0_become 108 = .ok (.aload_n 1, 1) := by decide +kernel
theorem dX0_become_109 : decode cX0_become 109 = .ok (.getfield 33, 3) := by decide +kernel
theorem dX0_become_112 : decode cX0_become 112 = .ok (.iconst 0, 1) := by decide +kernel
theorem dX0_become_113 : decode cX0_become 113 = .ok (.aload_n 0, 1) := by decide +kernel
theorem dX0_become_114 : decode cX0_become 114 = .ok (.getfield 33, 3) := by decide +kernel
theorem dX0_become_117 : decode cX0_become 117 = .ok (.iconst 0, 1) := by decide +kernel
theorem dX0_become_118 : decode cX0_become 118 = .ok (.aload_n 0, 1) := by decide +kernel
theorem dX0_become_119 : decode cX0_become 119 = .ok (.getfield 33, 3) := by decide +kernel
theorem dX0_become_122 : decode cX0_become 122 = .ok (.arraylength, 1) := by decide +kernel
theorem dX0_become_123 : decode cX0_become 123 = .ok (.invokestatic 40, 3) := by decide +kernel
theorem dX0_become_126 : decode cX0_become 126 = .ok (.aload_n 0, 1) := by decide +kernel
theorem dX0_become_127 : decode cX0_become 127 = .ok (.aload_n 1, 1) := by decide +kernel
theorem dX0_become_128 : decode cX0_become 128 = .ok (.getfield 36, 3) := by decide +kernel
theorem dX0_become_131 : decode cX0_become 131 = .ok (.putfield 36, 3) := by decide +kernel
theorem dX0_become_134 : decode cX0_become 134 = .ok (.return_, 1) := by decide +kernel
theorem dX0_countBridges_0 : decode cX0_countBridges 0 = .ok (.iconst 0, 1) := by decide +kernel
theorem dX0_countBridges_1 : decode cX0_countBridges 1 = .ok (.istore_n 2, 1) := by decide +kernel
theorem dX0_countBridges_2 : decode cX0_countBridges 2 = .ok (.iconst 0, 1) := by decide +kernel
theorem dX0_countBridges_3 : decode cX0_countBridges 3 = .ok (.istore_n 3, 1) := by decide +kernel
theorem dX0_countBridges_4 : decode cX0_countBridges 4 = .ok (.iload_n 3, 1) := by decide +kernel
theorem dX0_countBridges_5 : decode cX0_countBridges 5 = .ok (.aload_n 0, 1) := by decide +kernel
theorem dX0_countBridges_6 : decode cX0_countBridges 6 = .ok (.getfield 13, 3) := by decide +kernel
theorem dX0_countBridges_9 : decode cX0_countBridges 9 = .ok (.iconst 1, 1) := by decide +kernel
theorem dX0_countBridges_10 : decode cX0_countBridges 10 = .ok (.iaload, 1) := by decide +kernel
theorem dX0_countBridges_11 : decode cX0_countBridges 11 = .ok (.if_icmp .ge 18, 3) := by decide +kernel
theorem dX0_countBridges_29 : decode cX0_countBridges 29 = .ok (.iload_n 2, 1) := by decide +kernel
theorem dX0_countBridges_30 : decode cX0_countBridges 30 = .ok (.ireturn, 1) := by decide +kernel
theorem dX0_hasRoom_0 : decode cX0_hasRoom 0 = .ok (.aload_n 0, 1) := by decide +kernel
theorem dX0_hasRoom_1 : decode cX0_hasRoom 1 = .ok (.getfield 13, 3) := by decide +kernel
theorem dX0_hasRoom_4 : decode cX0_hasRoom 4 = .ok (.iload_n 1, 1) := by decide +kernel
theorem dX0_hasRoom_5 : decode cX0_hasRoom 5 = .ok (.iaload, 1) := by decide +kernel
theorem dX0_hasRoom_6 : decode cX0_hasRoom 6 = .ok (.getstatic 9, 3) := by decide +kernel
theorem dX0_hasRoom_9 : decode cX0_hasRoom 9 = .ok (.iload_n 1, 1) := by decide +kernel
theorem dX0_hasRoom_10 : decode cX0_hasRoom 10 = .ok (.iaload, 1) := by decide +kernel
theorem dX0_hasRoom_11 : decode cX0_hasRoom 11 = .ok (.if_icmp .ge 7, 3) := by decide +kernel
theorem dX0_hasRoom_14 : decode cX0_hasRoom 14 = .ok (.iconst 1, 1) := by decide +kernel
theorem dX0_hasRoom_15 : decode cX0_hasRoom 15 = .ok (.goto 4, 3) := by decide +kernel
theorem dX0_hasRoom_19 : decode cX0_hasRoom 19 = .ok (.ireturn, 1) := by decide +kernel
theorem dX0_setsOfParts_0 : decode cX0_setsOfParts 0 = .ok (.iconst 1, 1) := by decide +kernel
theorem dX0_setsOfParts_1 : decode cX0_setsOfParts 1 = .ok (.aload_n 0, 1) := by decide +kernel
theorem dX0_setsOfParts_2 : decode cX0_setsOfParts 2 = .ok (.getfield 13, 3) := by decide +kernel
theorem dX0_setsOfParts_5 : decode cX0_setsOfParts 5 = .ok (.iconst 3, 1) := by decide +kernel
theorem dX0_setsOfParts_6 : decode cX0_setsOfParts 6 = .ok (.iaload, 1) := by decide +kernel
theorem dX0_setsOfParts_7 : decode cX0_setsOfParts 7 = .ok (.ishl, 1) := by decide +kernel
theorem dX0_setsOfParts_8 : decode cX0_setsOfParts 8 = .ok (.ireturn, 1) := by decide +kernel
theorem dX2_read_0 : decode cX2_read 0 = .ok (.aload_n 0, 1) := by decide +kernel
theorem dX2_read_1 : decode cX2_read 1 = .ok (.getfield 15, 3) := by decide +kernel
theorem dX2_read_4 : decode cX2_read 4 = .ok (.getfield 29, 3) := by decide +kernel
theorem dX2_read_7 : decode cX2_read 7 = .ok (.iconst 0, 1) := by decide +kernel
theorem dX2_read_8 : decode cX2_read 8 = .ok (.aload_n 0, 1) := by decide +kernel
theorem dX2_read_9 : decode cX2_read 9 = .ok (.getfield 23, 3) := by decide +kernel
theorem dX2_read_12 : decode cX2_read 12 = .ok (.iconst 0, 1) := by decide +kernel
theorem dX2_read_13 : decode cX2_read 13 = .ok (.aload_n 0, 1) := by decide +kernel
theorem dX2_read_14 : decode cX2_read 14 = .ok (.getfield 23, 3) := by decide +kernel
theorem dX2_read_17 : decode cX2_read 17 = .ok (.arraylength, 1) := by decide +kernel
theorem dX2_read_18 : decode cX2_read 18 = .ok (.invokestatic 34, 3) := by decide +kernel
theorem dX2_read_21 : decode cX2_read 21 = .ok (.aload_n 0, 1) := by decide +kernel
theorem dX2_read_22 : decode cX2_read 22 = .ok (.getfield 15, 3) := by decide +kernel
theorem dX2_read_25 : decode cX2_read 25 = .ok (.getfield 40, 3) := by decide +kernel
theorem dX2_read_28 : decode cX2_read 28 = .ok (.iconst 0, 1) := by decide +kernel
theorem dX2_read_29 : decode cX2_read 29 = .ok (.aload_n 0, 1) := by decide +kernel
theorem dX2_read_30 : decode cX2_read 30 = .ok (.getfield 26, 3) := by decide +kernel
theorem dX2_read_33 : decode cX2_read 33 = .ok (.iconst 0, 1) := by decide +kernel
theorem dX2_read_34 : decode cX2_read 34 = .ok (.aload_n 0, 1) := by decide +kernel
theorem dX2_read_35 : decode cX2_read 35 = .ok (.getfield 26, 3) := by decide +kernel
theorem dX2_read_38 : decode cX2_read 38 = .ok (.arraylength, 1) := by decide +kernel
theorem dX2_read_39 : decode cX2_read 39 = .ok (.invokestatic 34, 3) := by decide +kernel
theorem dX2_read_42 : decode cX2_read 42 = .ok (.aload_n 0, 1) := by decide +kernel
theorem dX2_read_43 : decode cX2_read 43 = .ok (.getfield 9, 3) := by decide +kernel
theorem dX2_read_46 : decode cX2_read 46 = .ok (.invokevirtual 43, 3) := by decide +kernel
theorem dX2_read_49 : decode cX2_read 49 = .ok (.aload_n 0, 1) := by decide +kernel
theorem dX2_read_50 : decode cX2_read 50 = .ok (.invokevirtual 48, 3) := by decide +kernel
theorem dX2_read_53 : decode cX2_read 53 = .ok (.iconst 1, 1) := by decide +kernel
theorem dX2_read_54 : decode cX2_read 54 = .ok (.istore_n 1, 1) := by decide +kernel
theorem dX2_read_55 : decode cX2_read 55 = .ok (.aload_n 0, 1) := by decide +kernel
theorem dX2_read_56 : decode cX2_read 56 = .ok (.getfield 9, 3) := by decide +kernel
theorem dX2_read_59 : decode cX2_read 59 = .ok (.invokevirtual 51, 3) := by decide +kernel
theorem dX2_read_62 : decode cX2_read 62 = .ok (.ifCond .eq 37, 3) := by decide +kernel
theorem dX2_read_99 : decode cX2_read 99 = .ok (.aload_n 0, 1) := by decide +kernel
theorem dX2_read_100 : decode cX2_read 100 = .ok (.getfield 9, 3) := by decide +kernel
theorem dX2_read_103 : decode cX2_read 103 = .ok (.invokevirtual 51, 3) := by decide +kernel
theorem dX2_read_106 : decode cX2_read 106 = .ok (.ifCond .ne 45, 3) := by decide +kernel
theorem dX2_read_109 : decode cX2_read 109 = .ok (.aload_n 0, 1) := by decide +kernel
theorem dX2_read_110 : decode cX2_read 110 = .ok (.getfield 23, 3) := by decide +kernel
theorem dX2_read_113 : decode cX2_read 113 = .ok (.iconst 0, 1) := by decide +kernel
theorem dX2_read_114 : decode cX2_read 114 = .ok (.aload_n 0, 1) := by decide +kernel
theorem dX2_read_115 : decode cX2_read 115 = .ok (.getfield 15, 3) := by decide +kernel
theorem dX2_read_118 : decode cX2_read 118 = .ok (.getfield 29, 3) := by decide +kernel
theorem dX2_read_121 : decode cX2_read 121 = .ok (.iconst 0, 1) := by decide +kernel
theorem dX2_read_122 : decode cX2_read 122 = .ok (.aload_n 0, 1) := by decide +kernel
theorem dX2_read_123 : decode cX2_read 123 = .ok (.getfield 23, 3) := by decide +kernel
theorem dX2_read_126 : decode cX2_read 126 = .ok (.arraylength, 1) := by decide +kernel
theorem dX2_read_127 : decode cX2_read 127 = .ok (.invokestatic 34, 3) := by decide +kernel
theorem dX2_read_130 : decode cX2_read 130 = .ok (.aload_n 0, 1) := by decide +kernel
theorem dX2_read_131 : decode cX2_read 131 = .ok (.getfield 26, 3) := by decide +kernel
theorem dX2_read_134 : decode cX2_read 134 = .ok (.iconst 0, 1) := by decide +kernel
theorem dX2_read_135 : decode cX2_read 135 = .ok (.aload_n 0, 1) := by decide +kernel
theorem dX2_read_136 : decode cX2_read 136 = .ok (.getfield 15, 3) := by decide +kernel
theorem dX2_read_139 : decode cX2_read 139 = .ok (.getfield 40, 3) := by decide +kernel
theorem dX2_read_142 : decode cX2_read 142 = .ok (.iconst 0, 1) := by decide +kernel
theorem dX2_read_143 : decode cX2_read 143 = .ok (.aload_n 0, 1) := by decide +kernel
theorem dX2_read_144 : decode cX2_read 144 = .ok (.getfield 26, 3) := by decide +kernel
theorem dX2_read_147 : decode cX2_read 147 = .ok (.arraylength, 1) := by decide +kernel
theorem dX2_read_148 : decode cX2_read 148 = .ok (.invokestatic 34, 3) := by decide +kernel
theorem dX2_read_151 : decode cX2_read 151 = .ok (.iload_n 1, 1) := by decide +kernel
theorem dX2_read_152 : decode cX2_read 152 = .ok (.ireturn, 1) := by decide +kernel
theorem dX2_readStatement_0 : decode cX2_readStatement 0 = .ok (.aload_n 0, 1) := by decide +kernel
theorem dX2_readStatement_1 : decode cX2_readStatement 1 = .ok (.getfield 9, 3) := by decide +kernel
theorem dX2_readStatement_4 : decode cX2_readStatement 4 = .ok (.ldc 61, 2) := by decide +kernel
theorem dX2_readStatement_6 : decode cX2_readStatement 6 = .ok (.invokevirtual 63, 3) := by decide +kernel
theorem dX2_readStatement_9 : decode cX2_readStatement 9 = .ok (.ifCond .eq 10, 3) := by decide +kernel
theorem dX2_readStatement_19 : decode cX2_readStatement 19 = .ok (.aload_n 0, 1) := by decide +kernel
theorem dX2_readStatement_20 : decode cX2_readStatement 20 = .ok (.getfield 9, 3) := by decide +kernel
theorem dX2_readStatement_23 : decode cX2_readStatement 23 = .ok (.ldc 70, 2) := by decide +kernel
theorem dX2_readStatement_25 : decode cX2_readStatement 25 = .ok (.invokevirtual 63, 3) := by decide +kernel
theorem dX2_readStatement_28 : decode cX2_readStatement 28 = .ok (.ifCond .eq 10, 3) := by decide +kernel
theorem dX2_readStatement_38 : decode cX2_readStatement 38 = .ok (.aload_n 0, 1) := by decide +kernel
theorem dX2_readStatement_39 : decode cX2_readStatement 39 = .ok (.getfield 9, 3) := by decide +kernel
theorem dX2_readStatement_42 : decode cX2_readStatement 42 = .ok (.ldc 75, 2) := by decide +kernel
theorem dX2_readStatement_44 : decode cX2_readStatement 44 = .ok (.invokevirtual 63, 3) := by decide +kernel
theorem dX2_readStatement_47 : decode cX2_readStatement 47 = .ok (.ifCond .eq 10, 3) := by decide +kernel
theorem dX2_readStatement_57 : decode cX2_readStatement 57 = .ok (.aload_n 0, 1) := by decide +kernel
theorem dX2_readStatement_58 : decode cX2_readStatement 58 = .ok (.getfield 9, 3) := by decide +kernel
theorem dX2_readStatement_61 : decode cX2_readStatement 61 = .ok (.ldc 80, 2) := by decide +kernel
theorem dX2_readStatement_63 : decode cX2_readStatement 63 = .ok (.invokevirtual 63, 3) := by decide +kernel
theorem dX2_readStatement_66 : decode cX2_readStatement 66 = .ok (.ifCond .eq 10, 3) := by decide +kernel
theorem dX2_readStatement_76 : decode cX2_readStatement 76 = .ok (.aload_n 0, 1) := by decide +kernel
theorem dX2_readStatement_77 : decode cX2_readStatement 77 = .ok (.getfield 9, 3) := by decide +kernel
theorem dX2_readStatement_80 : decode cX2_readStatement 80 = .ok (.ldc 85, 2) := by decide +kernel
theorem dX2_readStatement_82 : decode cX2_readStatement 82 = .ok (.invokevirtual 87, 3) := by decide +kernel
theorem dX2_readStatement_85 : decode cX2_readStatement 85 = .ok (.ifCond .eq 11, 3) := by decide +kernel
theorem dX2_readStatement_96 : decode cX2_readStatement 96 = .ok (.aload_n 0, 1) := by decide +kernel
theorem dX2_readStatement_97 : decode cX2_readStatement 97 = .ok (.getfield 9, 3) := by decide +kernel
theorem dX2_readStatement_100 : decode cX2_readStatement 100 = .ok (.ldc 94, 2) := by decide +kernel
theorem dX2_readStatement_102 : decode cX2_readStatement 102 = .ok (.invokevirtual 87, 3) := by decide +kernel
theorem dX2_readStatement_105 : decode cX2_readStatement 105 = .ok (.ifCond .eq 11, 3) := by decide +kernel
theorem dX2_readStatement_116 : decode cX2_readStatement 116 = .ok (.aload_n 0, 1) := by decide +kernel
theorem dX2_readStatement_117 : decode cX2_readStatement 117 = .ok (.getfield 9, 3) := by decide +kernel
theorem dX2_readStatement_120 : decode cX2_readStatement 120 = .ok (.invokevirtual 96, 3) := by decide +kernel
theorem dX2_readStatement_123 : decode cX2_readStatement 123 = .ok (.return_, 1) := by decide +kernel
theorem dX3_countHeld_0 : decode cX3_countHeld 0 = .ok (.iconst 0, 1) := by decide +kernel
theorem dX3_countHeld_1 : decode cX3_countHeld 1 = .ok (.istore_n 1, 1) := by decide +kernel
theorem dX3_countHeld_2 : decode cX3_countHeld 2 = .ok (.iconst 0, 1) := by decide +kernel
theorem dX3_countHeld_3 : decode cX3_countHeld 3 = .ok (.istore_n 2, 1) := by decide +kernel
theorem dX3_countHeld_4 : decode cX3_countHeld 4 = .ok (.iload_n 2, 1) := by decide +kernel
theorem dX3_countHeld_5 : decode cX3_countHeld 5 = .ok (.bipush 8, 2) := by decide +kernel
theorem dX3_countHeld_7 : decode cX3_countHeld 7 = .ok (.if_icmp .ge 20, 3) := by decide +kernel
theorem dX3_countHeld_10 : decode cX3_countHeld 10 = .ok (.aload_n 0, 1) := by decide +kernel
theorem dX3_countHeld_11 : decode cX3_countHeld 11 = .ok (.iload_n 2, 1) := by decide +kernel
theorem dX3_countHeld_12 : decode cX3_countHeld 12 = .ok (.invokevirtual 22, 3) := by decide +kernel
theorem dX3_countHeld_15 : decode cX3_countHeld 15 = .ok (.ifCond .ne 6, 3) := by decide +kernel
theorem dX3_countHeld_21 : decode cX3_countHeld 21 = .ok (.iinc 2 1, 3) := by decide +kernel
theorem dX3_countHeld_24 : decode cX3_countHeld 24 = .ok (.goto (-20), 3) := by decide +kernel
theorem dX3_countHeld_27 : decode cX3_countHeld 27 = .ok (.iload_n 1, 1) := by decide +kernel
theorem dX3_countHeld_28 : decode cX3_countHeld 28 = .ok (.ireturn, 1) := by decide +kernel
theorem dX3_holdsBridge_0 : decode cX3_holdsBridge 0 = .ok (.aload_n 0, 1) := by decide +kernel
theorem dX3_holdsBridge_1 : decode cX3_holdsBridge 1 = .ok (.getfield 9, 3) := by decide +kernel
theorem dX3_holdsBridge_4 : decode cX3_holdsBridge 4 = .ok (.iload_n 1, 1) := by decide +kernel
theorem dX3_holdsBridge_5 : decode cX3_holdsBridge 5 = .ok (.iaload, 1) := by decide +kernel
theorem dX3_holdsBridge_6 : decode cX3_holdsBridge 6 = .ok (.bipush 10, 2) := by decide +kernel
theorem dX3_holdsBridge_8 : decode cX3_holdsBridge 8 = .ok (.if_icmp .lt 7, 3) := by decide +kernel
theorem dX3_holdsBridge_15 : decode cX3_holdsBridge 15 = .ok (.iconst 0, 1) := by decide +kernel
theorem dX3_holdsBridge_16 : decode cX3_holdsBridge 16 = .ok (.ireturn, 1) := by decide +kernel
theorem dX3_holdsNothing_0 : decode cX3_holdsNothing 0 = .ok (.aload_n 0, 1) := by decide +kernel
theorem dX3_holdsNothing_1 : decode cX3_holdsNothing 1 = .ok (.getfield 9, 3) := by decide +kernel
theorem dX3_holdsNothing_4 : decode cX3_holdsNothing 4 = .ok (.iload_n 1, 1) := by decide +kernel
theorem dX3_holdsNothing_5 : decode cX3_holdsNothing 5 = .ok (.iaload, 1) := by decide +kernel
theorem dX3_holdsNothing_6 : decode cX3_holdsNothing 6 = .ok (.iconst (-1), 1) := by decide +kernel
theorem dX3_holdsNothing_7 : decode cX3_holdsNothing 7 = .ok (.if_icmp .ne 7, 3) := by decide +kernel
theorem dX3_holdsNothing_10 : decode cX3_holdsNothing 10 = .ok (.iconst 1, 1) := by decide +kernel
theorem dX3_holdsNothing_11 : decode cX3_holdsNothing 11 = .ok (.goto 4, 3) := by decide +kernel
theorem dX3_holdsNothing_15 : decode cX3_holdsNothing 15 = .ok (.ireturn, 1) := by decide +kernel
theorem dX3_holdsRow_0 : decode cX3_holdsRow 0 = .ok (.aload_n 0, 1) := by decide +kernel
theorem dX3_holdsRow_1 : decode cX3_holdsRow 1 = .ok (.iload_n 1, 1) := by decide +kernel
theorem dX3_holdsRow_2 : decode cX3_holdsRow 2 = .ok (.invokevirtual 22, 3) := by decide +kernel
theorem dX3_holdsRow_5 : decode cX3_holdsRow 5 = .ok (.ifCond .ne 15, 3) := by decide +kernel
theorem dX3_holdsRow_20 : decode cX3_holdsRow 20 = .ok (.iconst 0, 1) := by decide +kernel
theorem dX3_holdsRow_21 : decode cX3_holdsRow 21 = .ok (.ireturn, 1) := by decide +kernel
theorem dX3_holdsUnlikeRows_0 : decode cX3_holdsUnlikeRows 0 = .ok (.aload_n 0, 1) := by decide +kernel
theorem dX3_holdsUnlikeRows_1 : decode cX3_holdsUnlikeRows 1 = .ok (.iload_n 1, 1) := by decide +kernel
theorem dX3_holdsUnlikeRows_2 : decode cX3_holdsUnlikeRows 2 = .ok (.invokevirtual 29, 3) := by decide +kernel
theorem dX3_holdsUnlikeRows_5 : decode cX3_holdsUnlikeRows 5 = .ok (.ifCond .eq 30, 3) := by decide +kernel
theorem dX3_holdsUnlikeRows_35 : decode cX3_holdsUnlikeRows 35 = .ok (.iconst 0, 1) := by decide +kernel
theorem dX3_holdsUnlikeRows_36 : decode cX3_holdsUnlikeRows 36 = .ok (.ireturn, 1) := by decide +kernel
theorem dX3_putBridge_0 : decode cX3_putBridge 0 = .ok (.aload_n 0, 1) := by decide +kernel
theorem dX3_putBridge_1 : decode cX3_putBridge 1 = .ok (.getfield 9, 3) := by decide +kernel
theorem dX3_putBridge_4 : decode cX3_putBridge 4 = .ok (.iload_n 1, 1) := by decide +kernel
theorem dX3_putBridge_5 : decode cX3_putBridge 5 = .ok (.iload_n 2, 1) := by decide +kernel
theorem dX3_putBridge_6 : decode cX3_putBridge 6 = .ok (.iconst (-1), 1) := by decide +kernel
theorem dX3_putBridge_7 : decode cX3_putBridge 7 = .ok (.if_icmp .ne 7, 3) := by decide +kernel
theorem dX3_putBridge_10 : decode cX3_putBridge 10 = .ok (.iconst (-1), 1) := by decide +kernel
theorem dX3_putBridge_11 : decode cX3_putBridge 11 = .ok (.goto 7, 3) := by decide +kernel
theorem dX3_putBridge_14 : decode cX3_putBridge 14 = .ok (.bipush 10, 2) := by decide +kernel
theorem dX3_putBridge_16 : decode cX3_putBridge 16 = .ok (.iload_n 2, 1) := by decide +kernel
theorem dX3_putBridge_17 : decode cX3_putBridge 17 = .ok (.iadd, 1) := by decide +kernel
theorem dX3_putBridge_18 : decode cX3_putBridge 18 = .ok (.iastore, 1) := by decide +kernel
theorem dX3_putBridge_19 : decode cX3_putBridge 19 = .ok (.aload_n 0, 1) := by decide +kernel
theorem dX3_putBridge_20 : decode cX3_putBridge 20 = .ok (.getfield 15, 3) := by decide +kernel
theorem dX3_putBridge_23 : decode cX3_putBridge 23 = .ok (.iload_n 1, 1) := by decide +kernel
theorem dX3_putBridge_24 : decode cX3_putBridge 24 = .ok (.iconst 0, 1) := by decide +kernel
theorem dX3_putBridge_25 : decode cX3_putBridge 25 = .ok (.iastore, 1) := by decide +kernel
theorem dX3_putBridge_26 : decode cX3_putBridge 26 = .ok (.return_, 1) := by decide +kernel
theorem dX4_advance_0 : decode cX4_advance 0 = .ok (.aload_n 0, 1) := by decide +kernel
theorem dX4_advance_1 : decode cX4_advance 1 = .ok (.aload_n 0, 1) := by decide +kernel
theorem dX4_advance_2 : decode cX4_advance 2 = .ok (.getfield 22, 3) := by decide +kernel
theorem dX4_advance_5 : decode cX4_advance 5 = .ok (.putfield 28, 3) := by decide +kernel
theorem dX4_advance_8 : decode cX4_advance 8 = .ok (.aload_n 0, 1) := by decide +kernel
theorem dX4_advance_9 : decode cX4_advance 9 = .ok (.getfield 28, 3) := by decide +kernel
theorem dX4_advance_12 : decode cX4_advance 12 = .ok (.aload_n 0, 1) := by decide +kernel
theorem dX4_advance_13 : decode cX4_advance 13 = .ok (.getfield 15, 3) := by decide +kernel
theorem dX4_advance_16 : decode cX4_advance 16 = .ok (.if_icmp .ge 30, 3) := by decide +kernel
theorem dX4_advance_46 : decode cX4_advance 46 = .ok (.aload_n 0, 1) := by decide +kernel
theorem dX4_advance_47 : decode cX4_advance 47 = .ok (.aload_n 0, 1) := by decide +kernel
theorem dX4_advance_48 : decode cX4_advance 48 = .ok (.getfield 28, 3) := by decide +kernel
theorem dX4_advance_51 : decode cX4_advance 51 = .ok (.putfield 22, 3) := by decide +kernel
theorem dX4_advance_54 : decode cX4_advance 54 = .ok (.aload_n 0, 1) := by decide +kernel
theorem dX4_advance_55 : decode cX4_advance 55 = .ok (.getfield 22, 3) := by decide +kernel
theorem dX4_advance_58 : decode cX4_advance 58 = .ok (.aload_n 0, 1) := by decide +kernel
theorem dX4_advance_59 : decode cX4_advance 59 = .ok (.getfield 15, 3) := by decide +kernel
theorem dX4_advance_62 : decode cX4_advance 62 = .ok (.if_icmp .ge 44, 3) := by decide +kernel
theorem dX4_advance_106 : decode cX4_advance 106 = .ok (.aload_n 0, 1) := by decide +kernel
theorem dX4_advance_107 : decode cX4_advance 107 = .ok (.getfield 22, 3) := by decide +kernel
theorem dX4_advance_110 : decode cX4_advance 110 = .ok (.aload_n 0, 1) := by decide +kernel
theorem dX4_advance_111 : decode cX4_advance 111 = .ok (.getfield 28, 3) := by decide +kernel
theorem dX4_advance_114 : decode cX4_advance 114 = .ok (.if_icmp .le 9, 3) := by decide +kernel
theorem dX4_advance_123 : decode cX4_advance 123 = .ok (.aload_n 0, 1) := by decide +kernel
theorem dX4_advance_124 : decode cX4_advance 124 = .ok (.getfield 22, 3) := by decide +kernel
theorem dX4_advance_127 : decode cX4_advance 127 = .ok (.aload_n 0, 1) := by decide +kernel
theorem dX4_advance_128 : decode cX4_advance 128 = .ok (.getfield 15, 3) := by decide +kernel
theorem dX4_advance_131 : decode cX4_advance 131 = .ok (.if_icmp .ge 44, 3) := by decide +kernel
theorem dX4_advance_175 : decode cX4_advance 175 = .ok (.aload_n 0, 1) := by decide +kernel
theorem dX4_advance_176 : decode cX4_advance 176 = .ok (.getfield 22, 3) := by decide +kernel
theorem dX4_advance_179 : decode cX4_advance 179 = .ok (.aload_n 0, 1) := by decide +kernel
theorem dX4_advance_180 : decode cX4_advance 180 = .ok (.getfield 28, 3) := by decide +kernel
theorem dX4_advance_183 : decode cX4_advance 183 = .ok (.if_icmp .le 9, 3) := by decide +kernel
theorem dX4_advance_192 : decode cX4_advance 192 = .ok (.aload_n 0, 1) := by decide +kernel
theorem dX4_advance_193 : decode cX4_advance 193 = .ok (.getfield 28, 3) := by decide +kernel
theorem dX4_advance_196 : decode cX4_advance 196 = .ok (.aload_n 0, 1) := by decide +kernel
theorem dX4_advance_197 : decode cX4_advance 197 = .ok (.getfield 15, 3) := by decide +kernel
theorem dX4_advance_200 : decode cX4_advance 200 = .ok (.if_icmp .lt 9, 3) := by decide +kernel
theorem dX4_advance_203 : decode cX4_advance 203 = .ok (.aload_n 0, 1) := by decide +kernel
theorem dX4_advance_204 : decode cX4_advance 204 = .ok (.iconst 0, 1) := by decide +kernel
theorem dX4_advance_205 : decode cX4_advance 205 = .ok (.putfield 31, 3) := by decide +kernel
theorem dX4_advance_208 : decode cX4_advance 208 = .ok (.return_, 1) := by decide +kernel
theorem dX4_append_0 : decode cX4_append 0 = .ok (.iload_n 2, 1) := by decide +kernel
theorem dX4_append_1 : decode cX4_append 1 = .ok (.iconst 1, 1) := by decide +kernel
theorem dX4_append_2 : decode cX4_append 2 = .ok (.isub, 1) := by decide +kernel
theorem dX4_append_3 : decode cX4_append 3 = .ok (.istore_n 3, 1) := by decide +kernel
theorem dX4_append_4 : decode cX4_append 4 = .ok (.iload_n 3, 1) := by decide +kernel
theorem dX4_append_5 : decode cX4_append 5 = .ok (.ifCond .lt 38, 3) := by decide +kernel
theorem dX4_append_8 : decode cX4_append 8 = .ok (.aload_n 0, 1) := by decide +kernel
theorem dX4_append_9 : decode cX4_append 9 = .ok (.getfield 9, 3) := by decide +kernel
theorem dX4_append_12 : decode cX4_append 12 = .ok (.aload_n 0, 1) := by decide +kernel
theorem dX4_append_13 : decode cX4_append 13 = .ok (.getfield 15, 3) := by decide +kernel
theorem dX4_append_16 : decode cX4_append 16 = .ok (.iload_n 1, 1) := by decide +kernel
theorem dX4_append_17 : decode cX4_append 17 = .ok (.bipush 8, 2) := by decide +kernel
theorem dX4_append_19 : decode cX4_append 19 = .ok (.iload_n 3, 1) := by decide +kernel
theorem dX4_append_20 : decode cX4_append 20 = .ok (.imul, 1) := by decide +kernel
theorem dX4_append_21 : decode cX4_append 21 = .ok (.ishr, 1) := by decide +kernel
theorem dX4_append_22 : decode cX4_append 22 = .ok (.sipush 255, 3) := by decide +kernel
theorem dX4_append_25 : decode cX4_append 25 = .ok (.iand, 1) := by decide +kernel
theorem dX4_append_26 : decode cX4_append 26 = .ok (.iastore, 1) := by decide +kernel
theorem dX4_append_27 : decode cX4_append 27 = .ok (.aload_n 0, 1) := by decide +kernel
theorem dX4_append_28 : decode cX4_append 28 = .ok (.dup, 1) := by decide +kernel
theorem dX4_append_29 : decode cX4_append 29 = .ok (.getfield 15, 3) := by decide +kernel
theorem dX4_append_32 : decode cX4_append 32 = .ok (.iconst 1, 1) := by decide +kernel
theorem dX4_append_33 : decode cX4_append 33 = .ok (.iadd, 1) := by decide +kernel
theorem dX4_append_34 : decode cX4_append 34 = .ok (.putfield 15, 3) := by decide +kernel
theorem dX4_append_37 : decode cX4_append 37 = .ok (.iinc 3 (-1), 3) := by decide +kernel
theorem dX4_append_40 : decode cX4_append 40 = .ok (.goto (-36), 3) := by decide +kernel
theorem dX4_append_43 : decode cX4_append 43 = .ok (.return_, 1) := by decide +kernel
theorem dX4_fail_0 : decode cX4_fail 0 = .ok (.aload_n 0, 1) := by decide +kernel
theorem dX4_fail_1 : decode cX4_fail 1 = .ok (.getfield 19, 3) := by decide +kernel
theorem dX4_fail_4 : decode cX4_fail 4 = .ok (.iconst (-1), 1) := by decide +kernel
theorem dX4_fail_5 : decode cX4_fail 5 = .ok (.if_icmp .ne 11, 3) := by decide +kernel
theorem dX4_fail_8 : decode cX4_fail 8 = .ok (.aload_n 0, 1) := by decide +kernel
theorem dX4_fail_9 : decode cX4_fail 9 = .ok (.aload_n 0, 1) := by decide +kernel
theorem dX4_fail_10 : decode cX4_fail 10 = .ok (.getfield 28, 3) := by decide +kernel
theorem dX4_fail_13 : decode cX4_fail 13 = .ok (.putfield 19, 3) := by decide +kernel
theorem dX4_fail_16 : decode cX4_fail 16 = .ok (.return_, 1) := by decide +kernel
theorem dX4_isSound_0 : decode cX4_isSound 0 = .ok (.aload_n 0, 1) := by decide +kernel
theorem dX4_isSound_1 : decode cX4_isSound 1 = .ok (.getfield 19, 3) := by decide +kernel
theorem dX4_isSound_4 : decode cX4_isSound 4 = .ok (.iconst (-1), 1) := by decide +kernel
theorem dX4_isSound_5 : decode cX4_isSound 5 = .ok (.if_icmp .ne 7, 3) := by decide +kernel
theorem dX4_isSound_12 : decode cX4_isSound 12 = .ok (.iconst 0, 1) := by decide +kernel
theorem dX4_isSound_13 : decode cX4_isSound 13 = .ok (.ireturn, 1) := by decide +kernel
theorem dX4_isWord_0 : decode cX4_isWord 0 = .ok (.aload_n 0, 1) := by decide +kernel
theorem dX4_isWord_1 : decode cX4_isWord 1 = .ok (.getfield 19, 3) := by decide +kernel
theorem dX4_isWord_4 : decode cX4_isWord 4 = .ok (.iconst (-1), 1) := by decide +kernel
theorem dX4_isWord_5 : decode cX4_isWord 5 = .ok (.if_icmp .ne 27, 3) := by decide +kernel
theorem dX4_isWord_8 : decode cX4_isWord 8 = .ok (.aload_n 0, 1) := by decide +kernel
theorem dX4_isWord_9 : decode cX4_isWord 9 = .ok (.getfield 31, 3) := by decide +kernel
theorem dX4_isWord_12 : decode cX4_isWord 12 = .ok (.iconst 1, 1) := by decide +kernel
theorem dX4_isWord_13 : decode cX4_isWord 13 = .ok (.if_icmp .ne 19, 3) := by decide +kernel
theorem dX4_isWord_32 : decode cX4_isWord 32 = .ok (.iconst 0, 1) := by decide +kernel
theorem dX4_isWord_33 : decode cX4_isWord 33 = .ok (.ireturn, 1) := by decide +kernel
theorem dX4_rewind_0 : decode cX4_rewind 0 = .ok (.aload_n 0, 1) := by decide +kernel
theorem dX4_rewind_1 : decode cX4_rewind 1 = .ok (.iconst (-1), 1) := by decide +kernel
theorem dX4_rewind_2 : decode cX4_rewind 2 = .ok (.putfield 19, 3) := by decide +kernel
theorem dX4_rewind_5 : decode cX4_rewind 5 = .ok (.aload_n 0, 1) := by decide +kernel
theorem dX4_rewind_6 : decode cX4_rewind 6 = .ok (.iconst 0, 1) := by decide +kernel
theorem dX4_rewind_7 : decode cX4_rewind 7 = .ok (.putfield 22, 3) := by decide +kernel
theorem dX4_rewind_10 : decode cX4_rewind 10 = .ok (.aload_n 0, 1) := by decide +kernel
theorem dX4_rewind_11 : decode cX4_rewind 11 = .ok (.invokevirtual 25, 3) := by decide +kernel
theorem dX4_rewind_14 : decode cX4_rewind 14 = .ok (.return_, 1) := by decide +kernel
theorem dX4_takeWordIfThere_0 : decode cX4_takeWordIfThere 0 = .ok (.aload_n 0, 1) := by decide +kernel
theorem dX4_takeWordIfThere_1 : decode cX4_takeWordIfThere 1 = .ok (.aload_n 1, 1) := by decide +kernel
theorem dX4_takeWordIfThere_2 : decode cX4_takeWordIfThere 2 = .ok (.invokevirtual 47, 3) := by decide +kernel
theorem dX4_takeWordIfThere_5 : decode cX4_takeWordIfThere 5 = .ok (.istore_n 2, 1) := by decide +kernel
theorem dX4_takeWordIfThere_6 : decode cX4_takeWordIfThere 6 = .ok (.iload_n 2, 1) := by decide +kernel
theorem dX4_takeWordIfThere_7 : decode cX4_takeWordIfThere 7 = .ok (.ifCond .eq 7, 3) := by decide +kernel
theorem dX4_takeWordIfThere_14 : decode cX4_takeWordIfThere 14 = .ok (.iload_n 2, 1) := by decide +kernel
theorem dX4_takeWordIfThere_15 : decode cX4_takeWordIfThere 15 = .ok (.ireturn, 1) := by decide +kernel
theorem dX6_again_0 : decode cX6_again 0 = .ok (.aload_n 0, 1) := by decide +kernel
theorem dX6_again_1 : decode cX6_again 1 = .ok (.iload_n 1, 1) := by decide +kernel
theorem dX6_again_2 : decode cX6_again 2 = .ok (.iload_n 2, 1) := by decide +kernel
theorem dX6_again_3 : decode cX6_again 3 = .ok (.iload_n 3, 1) := by decide +kernel
theorem dX6_again_4 : decode cX6_again 4 = .ok (.iload 4, 2) := by decide +kernel
theorem dX6_again_6 : decode cX6_again 6 = .ok (.invokevirtual 238, 3) := by decide +kernel
theorem dX6_again_9 : decode cX6_again 9 = .ok (.ifCond .eq 14, 3) := by decide +kernel
theorem dX6_again_23 : decode cX6_again 23 = .ok (.aload_n 0, 1) := by decide +kernel
theorem dX6_again_24 : decode cX6_again 24 = .ok (.bipush (-2), 2) := by decide +kernel
theorem dX6_again_26 : decode cX6_again 26 = .ok (.invokevirtual 70, 3) := by decide +kernel
theorem dX6_again_29 : decode cX6_again 29 = .ok (.ireturn, 1) := by decide +kernel
theorem dX6_ask_0 : decode cX6_ask 0 = .ok (.iload_n 1, 1) := by decide +kernel
theorem dX6_ask_1 : decode cX6_ask 1 = .ok (.iconst 0, 1) := by decide +kernel
theorem dX6_ask_2 : decode cX6_ask 2 = .ok (.iconst 2, 1) := by decide +kernel
theorem dX6_ask_3 : decode cX6_ask 3 = .ok (.invokestatic 66, 3) := by decide +kernel
theorem dX6_ask_6 : decode cX6_ask 6 = .ok (.ifCond .eq 16, 3) := by decide +kernel
theorem dX6_ask_9 : decode cX6_ask 9 = .ok (.iload_n 2, 1) := by decide +kernel
theorem dX6_ask_10 : decode cX6_ask 10 = .ok (.iconst 0, 1) := by decide +kernel
theorem dX6_ask_11 : decode cX6_ask 11 = .ok (.getstatic 153, 3) := by decide +kernel
theorem dX6_ask_14 : decode cX6_ask 14 = .ok (.iload_n 1, 1) := by decide +kernel
theorem dX6_ask_15 : decode cX6_ask 15 = .ok (.iaload, 1) := by decide +kernel
theorem dX6_ask_16 : decode cX6_ask 16 = .ok (.invokestatic 66, 3) := by decide +kernel
theorem dX6_ask_19 : decode cX6_ask 19 = .ok (.ifCond .ne 10, 3) := by decide +kernel
theorem dX6_ask_22 : decode cX6_ask 22 = .ok (.aload_n 0, 1) := by decide +kernel
theorem dX6_ask_23 : decode cX6_ask 23 = .ok (.bipush (-2), 2) := by decide +kernel
theorem dX6_ask_25 : decode cX6_ask 25 = .ok (.invokevirtual 70, 3) := by decide +kernel
theorem dX6_ask_28 : decode cX6_ask 28 = .ok (.ireturn, 1) := by decide +kernel
theorem dX6_ask_29 : decode cX6_ask 29 = .ok (.aload_n 0, 1) := by decide +kernel
theorem dX6_ask_30 : decode cX6_ask 30 = .ok (.getfield 10, 3) := by decide +kernel
theorem dX6_ask_33 : decode cX6_ask 33 = .ok (.getfield 156, 3) := by decide +kernel
theorem dX6_ask_36 : decode cX6_ask 36 = .ok (.iload_n 1, 1) := by decide +kernel
theorem dX6_ask_37 : decode cX6_ask 37 = .ok (.iaload, 1) := by decide +kernel
theorem dX6_ask_38 : decode cX6_ask 38 = .ok (.istore_n 3, 1) := by decide +kernel
theorem dX6_ask_39 : decode cX6_ask 39 = .ok (.aload_n 0, 1) := by decide +kernel
theorem dX6_ask_40 : decode cX6_ask 40 = .ok (.getfield 10, 3) := by decide +kernel
theorem dX6_ask_43 : decode cX6_ask 43 = .ok (.getfield 156, 3) := by decide +kernel
theorem dX6_ask_46 : decode cX6_ask 46 = .ok (.iload_n 1, 1) := by decide +kernel
theorem dX6_ask_47 : decode cX6_ask 47 = .ok (.iload_n 2, 1) := by decide +kernel
theorem dX6_ask_48 : decode cX6_ask 48 = .ok (.iastore, 1) := by decide +kernel
theorem dX6_ask_49 : decode cX6_ask 49 = .ok (.iload_n 3, 1) := by decide +kernel
theorem dX6_ask_50 : decode cX6_ask 50 = .ok (.ireturn, 1) := by decide +kernel
theorem dX6_axle_0 : decode cX6_axle 0 = .ok (.aload_n 0, 1) := by decide +kernel
theorem dX6_axle_1 : decode cX6_axle 1 = .ok (.iload_n 1, 1) := by decide +kernel
theorem dX6_axle_2 : decode cX6_axle 2 = .ok (.iload_n 2, 1) := by decide +kernel
theorem dX6_axle_3 : decode cX6_axle 3 = .ok (.invokevirtual 200, 3) := by decide +kernel
theorem dX6_axle_6 : decode cX6_axle 6 = .ok (.ifCond .ne 10, 3) := by decide +kernel
theorem dX6_axle_9 : decode cX6_axle 9 = .ok (.aload_n 0, 1) := by decide +kernel
theorem dX6_axle_10 : decode cX6_axle 10 = .ok (.bipush (-2), 2) := by decide +kernel
theorem dX6_axle_12 : decode cX6_axle 12 = .ok (.invokevirtual 70, 3) := by decide +kernel
theorem dX6_axle_15 : decode cX6_axle 15 = .ok (.ireturn, 1) := by decide +kernel
theorem dX6_back_0 : decode cX6_back 0 = .ok (.aload_n 0, 1) := by decide +kernel
theorem dX6_back_1 : decode cX6_back 1 = .ok (.getfield 19, 3) := by decide +kernel
theorem dX6_back_4 : decode cX6_back 4 = .ok (.ifCond .ne 10, 3) := by decide +kernel
theorem dX6_back_7 : decode cX6_back 7 = .ok (.aload_n 0, 1) := by decide +kernel
theorem dX6_back_8 : decode cX6_back 8 = .ok (.bipush (-5), 2) := by decide +kernel
theorem dX6_back_10 : decode cX6_back 10 = .ok (.invokevirtual 70, 3) := by decide +kernel
theorem dX6_back_13 : decode cX6_back 13 = .ok (.ireturn, 1) := by decide +kernel
theorem dX6_bears_0 : decode cX6_bears 0 = .ok (.aload_n 0, 1) := by decide +kernel
theorem dX6_bears_1 : decode cX6_bears 1 = .ok (.iload_n 1, 1) := by decide +kernel
theorem dX6_bears_2 : decode cX6_bears 2 = .ok (.invokevirtual 112, 3) := by decide +kernel
theorem dX6_bears_5 : decode cX6_bears 5 = .ok (.ifCond .ne 10, 3) := by decide +kernel
theorem dX6_bears_8 : decode cX6_bears 8 = .ok (.aload_n 0, 1) := by decide +kernel
theorem dX6_bears_9 : decode cX6_bears 9 = .ok (.bipush (-2), 2) := by decide +kernel
theorem dX6_bears_11 : decode cX6_bears 11 = .ok (.invokevirtual 70, 3) := by decide +kernel
theorem dX6_bears_14 : decode cX6_bears 14 = .ok (.ireturn, 1) := by decide +kernel
theorem dX6_begin_0 : decode cX6_begin 0 = .ok (.aload_n 0, 1) := by decide +kernel
theorem dX6_begin_1 : decode cX6_begin 1 = .ok (.iload_n 1, 1) := by decide +kernel
theorem dX6_begin_2 : decode cX6_begin 2 = .ok (.iload_n 2, 1) := by decide +kernel
theorem dX6_begin_3 : decode cX6_begin 3 = .ok (.iload_n 3, 1) := by decide +kernel
theorem dX6_begin_4 : decode cX6_begin 4 = .ok (.iload 4, 2) := by decide +kernel
theorem dX6_begin_6 : decode cX6_begin 6 = .ok (.invokevirtual 238, 3) := by decide +kernel
theorem dX6_begin_9 : decode cX6_begin 9 = .ok (.ifCond .ne 10, 3) := by decide +kernel
theorem dX6_begin_12 : decode cX6_begin 12 = .ok (.aload_n 0, 1) := by decide +kernel
theorem dX6_begin_13 : decode cX6_begin 13 = .ok (.bipush (-2), 2) := by decide +kernel
theorem dX6_begin_15 : decode cX6_begin 15 = .ok (.invokevirtual 70, 3) := by decide +kernel
theorem dX6_begin_18 : decode cX6_begin 18 = .ok (.ireturn, 1) := by decide +kernel
theorem dX6_best_0 : decode cX6_best 0 = .ok (.iload_n 1, 1) := by decide +kernel
theorem dX6_best_1 : decode cX6_best 1 = .ok (.invokestatic 126, 3) := by decide +kernel
theorem dX6_best_4 : decode cX6_best 4 = .ok (.ifCond .eq 19, 3) := by decide +kernel
theorem dX6_best_7 : decode cX6_best 7 = .ok (.iload_n 2, 1) := by decide +kernel
theorem dX6_best_8 : decode cX6_best 8 = .ok (.invokestatic 126, 3) := by decide +kernel
theorem dX6_best_11 : decode cX6_best 11 = .ok (.ifCond .eq 12, 3) := by decide +kernel
theorem dX6_best_14 : decode cX6_best 14 = .ok (.iload_n 3, 1) := by decide +kernel
theorem dX6_best_15 : decode cX6_best 15 = .ok (.iconst 0, 1) := by decide +kernel
theorem dX6_best_16 : decode cX6_best 16 = .ok (.iconst 2, 1) := by decide +kernel
theorem dX6_best_17 : decode cX6_best 17 = .ok (.invokestatic 66, 3) := by decide +kernel
theorem dX6_best_20 : decode cX6_best 20 = .ok (.ifCond .ne 10, 3) := by decide +kernel
theorem dX6_best_23 : decode cX6_best 23 = .ok (.aload_n 0, 1) := by decide +kernel
theorem dX6_best_24 : decode cX6_best 24 = .ok (.bipush (-2), 2) := by decide +kernel
theorem dX6_best_26 : decode cX6_best 26 = .ok (.invokevirtual 70, 3) := by decide +kernel
theorem dX6_best_29 : decode cX6_best 29 = .ok (.ireturn, 1) := by decide +kernel
theorem dX6_best_30 : decode cX6_best 30 = .ok (.aload_n 0, 1) := by decide +kernel
theorem dX6_best_31 : decode cX6_best 31 = .ok (.iload_n 1, 1) := by decide +kernel
theorem dX6_best_32 : decode cX6_best 32 = .ok (.iload_n 2, 1) := by decide +kernel
theorem dX6_best_33 : decode cX6_best 33 = .ok (.invokevirtual 252, 3) := by decide +kernel
theorem dX6_best_36 : decode cX6_best 36 = .ok (.aload_n 0, 1) := by decide +kernel
theorem dX6_best_37 : decode cX6_best 37 = .ok (.getfield 59, 3) := by decide +kernel
theorem dX6_best_40 : decode cX6_best 40 = .ok (.iconst 2, 1) := by decide +kernel
theorem dX6_best_41 : decode cX6_best 41 = .ok (.iaload, 1) := by decide +kernel
theorem dX6_best_42 : decode cX6_best 42 = .ok (.ldc 255, 2) := by decide +kernel
theorem dX6_best_44 : decode cX6_best 44 = .ok (.if_icmp .ne 12, 3) := by decide +kernel
theorem dX6_best_47 : decode cX6_best 47 = .ok (.aload_n 0, 1) := by decide +kernel
theorem dX6_best_48 : decode cX6_best 48 = .ok (.bipush (-5), 2) := by decide +kernel
theorem dX6_best_50 : decode cX6_best 50 = .ok (.invokevirtual 70, 3) := by decide +kernel
theorem dX6_best_53 : decode cX6_best 53 = .ok (.goto 9, 3) := by decide +kernel
theorem dX6_best_62 : decode cX6_best 62 = .ok (.ireturn, 1) := by decide +kernel
theorem dX6_bridge_0 : decode cX6_bridge 0 = .ok (.aload_n 0, 1) := by decide +kernel
theorem dX6_bridge_1 : decode cX6_bridge 1 = .ok (.iload_n 1, 1) := by decide +kernel
theorem dX6_bridge_2 : decode cX6_bridge 2 = .ok (.invokevirtual 136, 3) := by decide +kernel
theorem dX6_bridge_5 : decode cX6_bridge 5 = .ok (.ifCond .eq 45, 3) := by decide +kernel
theorem dX6_bridge_50 : decode cX6_bridge 50 = .ok (.aload_n 0, 1) := by decide +kernel
theorem dX6_bridge_51 : decode cX6_bridge 51 = .ok (.bipush (-2), 2) := by decide +kernel
theorem dX6_bridge_53 : decode cX6_bridge 53 = .ok (.invokevirtual 70, 3) := by decide +kernel
theorem dX6_bridge_56 : decode cX6_bridge 56 = .ok (.ireturn, 1) := by decide +kernel
theorem dX6_bridgeOf_0 : decode cX6_bridgeOf 0 = .ok (.aload_n 0, 1) := by decide +kernel
theorem dX6_bridgeOf_1 : decode cX6_bridgeOf 1 = .ok (.iload_n 1, 1) := by decide +kernel
theorem dX6_bridgeOf_2 : decode cX6_bridgeOf 2 = .ok (.invokevirtual 112, 3) := by decide +kernel
theorem dX6_bridgeOf_5 : decode cX6_bridgeOf 5 = .ok (.ifCond .eq 13, 3) := by decide +kernel
theorem dX6_bridgeOf_18 : decode cX6_bridgeOf 18 = .ok (.aload_n 0, 1) := by decide +kernel
theorem dX6_bridgeOf_19 : decode cX6_bridgeOf 19 = .ok (.bipush (-2), 2) := by decide +kernel
theorem dX6_bridgeOf_21 : decode cX6_bridgeOf 21 = .ok (.invokevirtual 70, 3) := by decide +kernel
theorem dX6_bridgeOf_24 : decode cX6_bridgeOf 24 = .ok (.ireturn, 1) := by decide +kernel
theorem dX6_cheapest_0 : decode cX6_cheapest 0 = .ok (.aload_n 0, 1) := by decide +kernel
theorem dX6_cheapest_1 : decode cX6_cheapest 1 = .ok (.iload_n 1, 1) := by decide +kernel
theorem dX6_cheapest_2 : decode cX6_cheapest 2 = .ok (.iload_n 2, 1) := by decide +kernel
theorem dX6_cheapest_3 : decode cX6_cheapest 3 = .ok (.iload_n 3, 1) := by decide +kernel
theorem dX6_cheapest_4 : decode cX6_cheapest 4 = .ok (.iload 4, 2) := by decide +kernel
theorem dX6_cheapest_6 : decode cX6_cheapest 6 = .ok (.invokevirtual 238, 3) := by decide +kernel
theorem dX6_cheapest_9 : decode cX6_cheapest 9 = .ok (.ifCond .ne 10, 3) := by decide +kernel
theorem dX6_cheapest_12 : decode cX6_cheapest 12 = .ok (.aload_n 0, 1) := by decide +kernel
theorem dX6_cheapest_13 : decode cX6_cheapest 13 = .ok (.bipush (-2), 2) := by decide +kernel
theorem dX6_cheapest_15 : decode cX6_cheapest 15 = .ok (.invokevirtual 70, 3) := by decide +kernel
theorem dX6_cheapest_18 : decode cX6_cheapest 18 = .ok (.ireturn, 1) := by decide +kernel
theorem dX6_copy_0 : decode cX6_copy 0 = .ok (.iload_n 1, 1) := by decide +kernel
theorem dX6_copy_1 : decode cX6_copy 1 = .ok (.invokestatic 62, 3) := by decide +kernel
theorem dX6_copy_4 : decode cX6_copy 4 = .ok (.ifCond .eq 10, 3) := by decide +kernel
theorem dX6_copy_7 : decode cX6_copy 7 = .ok (.iload_n 2, 1) := by decide +kernel
theorem dX6_copy_8 : decode cX6_copy 8 = .ok (.invokestatic 62, 3) := by decide +kernel
theorem dX6_copy_11 : decode cX6_copy 11 = .ok (.ifCond .ne 10, 3) := by decide +kernel
theorem dX6_copy_14 : decode cX6_copy 14 = .ok (.aload_n 0, 1) := by decide +kernel
theorem dX6_copy_15 : decode cX6_copy 15 = .ok (.bipush (-2), 2) := by decide +kernel
theorem dX6_copy_17 : decode cX6_copy 17 = .ok (.invokevirtual 70, 3) := by decide +kernel
theorem dX6_copy_20 : decode cX6_copy 20 = .ok (.ireturn, 1) := by decide +kernel
theorem dX6_copy_21 : decode cX6_copy 21 = .ok (.aload_n 0, 1) := by decide +kernel
theorem dX6_copy_22 : decode cX6_copy 22 = .ok (.getfield 35, 3) := by decide +kernel
theorem dX6_copy_25 : decode cX6_copy 25 = .ok (.iload_n 1, 1) := by decide +kernel
theorem dX6_copy_26 : decode cX6_copy 26 = .ok (.invokevirtual 88, 3) := by decide +kernel
theorem dX6_copy_29 : decode cX6_copy 29 = .ok (.ifCond .ne 26, 3) := by decide +kernel
theorem dX6_copy_32 : decode cX6_copy 32 = .ok (.aload_n 0, 1) := by decide +kernel
theorem dX6_copy_33 : decode cX6_copy 33 = .ok (.getfield 35, 3) := by decide +kernel
theorem dX6_copy_36 : decode cX6_copy 36 = .ok (.iload_n 2, 1) := by decide +kernel
theorem dX6_copy_37 : decode cX6_copy 37 = .ok (.invokevirtual 88, 3) := by decide +kernel
theorem dX6_copy_40 : decode cX6_copy 40 = .ok (.ifCond .ne 15, 3) := by decide +kernel
theorem dX6_copy_43 : decode cX6_copy 43 = .ok (.aload_n 0, 1) := by decide +kernel
theorem dX6_copy_44 : decode cX6_copy 44 = .ok (.getfield 35, 3) := by decide +kernel
theorem dX6_copy_47 : decode cX6_copy 47 = .ok (.iload_n 1, 1) := by decide +kernel
theorem dX6_copy_48 : decode cX6_copy 48 = .ok (.iload_n 2, 1) := by decide +kernel
theorem dX6_copy_49 : decode cX6_copy 49 = .ok (.invokevirtual 91, 3) := by decide +kernel
theorem dX6_copy_52 : decode cX6_copy 52 = .ok (.ifCond .eq 10, 3) := by decide +kernel
theorem dX6_copy_62 : decode cX6_copy 62 = .ok (.aload_n 0, 1) := by decide +kernel
theorem dX6_copy_63 : decode cX6_copy 63 = .ok (.getfield 35, 3) := by decide +kernel
theorem dX6_copy_66 : decode cX6_copy 66 = .ok (.iload_n 1, 1) := by decide +kernel
theorem dX6_copy_67 : decode cX6_copy 67 = .ok (.invokevirtual 95, 3) := by decide +kernel
theorem dX6_copy_70 : decode cX6_copy 70 = .ok (.ifCond .ne 14, 3) := by decide +kernel
theorem dX6_copy_84 : decode cX6_copy 84 = .ok (.aload_n 0, 1) := by decide +kernel
theorem dX6_copy_85 : decode cX6_copy 85 = .ok (.bipush (-4), 2) := by decide +kernel
theorem dX6_copy_87 : decode cX6_copy 87 = .ok (.invokevirtual 70, 3) := by decide +kernel
theorem dX6_copy_90 : decode cX6_copy 90 = .ok (.ireturn, 1) := by decide +kernel
theorem dX6_element_0 : decode cX6_element 0 = .ok (.iload_n 1, 1) := by decide +kernel
theorem dX6_element_1 : decode cX6_element 1 = .ok (.invokestatic 62, 3) := by decide +kernel
theorem dX6_element_4 : decode cX6_element 4 = .ok (.ifCond .eq 14, 3) := by decide +kernel
theorem dX6_element_7 : decode cX6_element 7 = .ok (.aload_n 0, 1) := by decide +kernel
theorem dX6_element_8 : decode cX6_element 8 = .ok (.getfield 35, 3) := by decide +kernel
theorem dX6_element_11 : decode cX6_element 11 = .ok (.iload_n 1, 1) := by decide +kernel
theorem dX6_element_12 : decode cX6_element 12 = .ok (.invokevirtual 102, 3) := by decide +kernel
theorem dX6_element_15 : decode cX6_element 15 = .ok (.ifCond .ne 5, 3) := by decide +kernel
theorem dX6_element_18 : decode cX6_element 18 = .ok (.lconst 0, 1) := by decide +kernel
theorem dX6_element_19 : decode cX6_element 19 = .ok (.lreturn, 1) := by decide +kernel
theorem dX6_feed_0 : decode cX6_feed 0 = .ok (.iload_n 2, 1) := by decide +kernel
theorem dX6_feed_1 : decode cX6_feed 1 = .ok (.iconst 1, 1) := by decide +kernel
theorem dX6_feed_2 : decode cX6_feed 2 = .ok (.iconst 4, 1) := by decide +kernel
theorem dX6_feed_3 : decode cX6_feed 3 = .ok (.invokestatic 66, 3) := by decide +kernel
theorem dX6_feed_6 : decode cX6_feed 6 = .ok (.ifCond .ne 10, 3) := by decide +kernel
theorem dX6_feed_9 : decode cX6_feed 9 = .ok (.aload_n 0, 1) := by decide +kernel
theorem dX6_feed_10 : decode cX6_feed 10 = .ok (.bipush (-2), 2) := by decide +kernel
theorem dX6_feed_12 : decode cX6_feed 12 = .ok (.invokevirtual 70, 3) := by decide +kernel
theorem dX6_feed_15 : decode cX6_feed 15 = .ok (.ireturn, 1) := by decide +kernel
theorem dX6_feed_16 : decode cX6_feed 16 = .ok (.aload_n 0, 1) := by decide +kernel
theorem dX6_feed_17 : decode cX6_feed 17 = .ok (.getfield 42, 3) := by decide +kernel
theorem dX6_feed_20 : decode cX6_feed 20 = .ok (.getfield 171, 3) := by decide +kernel
theorem dX6_feed_23 : decode cX6_feed 23 = .ok (.iload_n 2, 1) := by decide +kernel
theorem dX6_feed_24 : decode cX6_feed 24 = .ok (.iadd, 1) := by decide +kernel
theorem dX6_feed_25 : decode cX6_feed 25 = .ok (.sipush 250, 3) := by decide +kernel
theorem dX6_feed_28 : decode cX6_feed 28 = .ok (.if_icmp .le 10, 3) := by decide +kernel
theorem dX6_feed_38 : decode cX6_feed 38 = .ok (.aload_n 0, 1) := by decide +kernel
theorem dX6_feed_39 : decode cX6_feed 39 = .ok (.getfield 42, 3) := by decide +kernel
theorem dX6_feed_42 : decode cX6_feed 42 = .ok (.iload_n 1, 1) := by decide +kernel
theorem dX6_feed_43 : decode cX6_feed 43 = .ok (.iload_n 2, 1) := by decide +kernel
theorem dX6_feed_44 : decode cX6_feed 44 = .ok (.invokevirtual 174, 3) := by decide +kernel
theorem dX6_feed_47 : decode cX6_feed 47 = .ok (.aload_n 0, 1) := by decide +kernel
theorem dX6_feed_48 : decode cX6_feed 48 = .ok (.getfield 42, 3) := by decide +kernel
theorem dX6_feed_51 : decode cX6_feed 51 = .ok (.getfield 171, 3) := by decide +kernel
theorem dX6_feed_54 : decode cX6_feed 54 = .ok (.ireturn, 1) := by decide +kernel
theorem dX6_fewest_0 : decode cX6_fewest 0 = .ok (.aload_n 0, 1) := by decide +kernel
theorem dX6_fewest_1 : decode cX6_fewest 1 = .ok (.iload_n 1, 1) := by decide +kernel
theorem dX6_fewest_2 : decode cX6_fewest 2 = .ok (.invokevirtual 194, 3) := by decide +kernel
theorem dX6_fewest_5 : decode cX6_fewest 5 = .ok (.ifCond .eq 17, 3) := by decide +kernel
theorem dX6_fewest_22 : decode cX6_fewest 22 = .ok (.aload_n 0, 1) := by decide +kernel
theorem dX6_fewest_23 : decode cX6_fewest 23 = .ok (.bipush (-2), 2) := by decide +kernel
theorem dX6_fewest_25 : decode cX6_fewest 25 = .ok (.invokevirtual 70, 3) := by decide +kernel
theorem dX6_fewest_28 : decode cX6_fewest 28 = .ok (.ireturn, 1) := by decide +kernel
theorem dX6_findBest_0 : decode cX6_findBest 0 = .ok (.aload_n 0, 1) := by decide +kernel
theorem dX6_findBest_1 : decode cX6_findBest 1 = .ok (.getfield 59, 3) := by decide +kernel
theorem dX6_findBest_4 : decode cX6_findBest 4 = .ok (.iconst 2, 1) := by decide +kernel
theorem dX6_findBest_5 : decode cX6_findBest 5 = .ok (.ldc 255, 2) := by decide +kernel
theorem dX6_findBest_7 : decode cX6_findBest 7 = .ok (.iastore, 1) := by decide +kernel
theorem dX6_findBest_8 : decode cX6_findBest 8 = .ok (.iconst 0, 1) := by decide +kernel
theorem dX6_findBest_9 : decode cX6_findBest 9 = .ok (.istore_n 3, 1) := by decide +kernel
theorem dX6_findBest_10 : decode cX6_findBest 10 = .ok (.iload_n 3, 1) := by decide +kernel
theorem dX6_findBest_11 : decode cX6_findBest 11 = .ok (.aload_n 0, 1) := by decide +kernel
theorem dX6_findBest_12 : decode cX6_findBest 12 = .ok (.getfield 10, 3) := by decide +kernel
theorem dX6_findBest_15 : decode cX6_findBest 15 = .ok (.getfield 273, 3) := by decide +kernel
theorem dX6_findBest_18 : decode cX6_findBest 18 = .ok (.iconst 2, 1) := by decide +kernel
theorem dX6_findBest_19 : decode cX6_findBest 19 = .ok (.iaload, 1) := by decide +kernel
theorem dX6_findBest_20 : decode cX6_findBest 20 = .ok (.if_icmp .ge 98, 3) := by decide +kernel
theorem dX6_findBest_118 : decode cX6_findBest 118 = .ok (.return_, 1) := by decide +kernel
theorem dX6_frost_0 : decode cX6_frost 0 = .ok (.aload_n 0, 1) := by decide +kernel
theorem dX6_frost_1 : decode cX6_frost 1 = .ok (.iload_n 1, 1) := by decide +kernel
theorem dX6_frost_2 : decode cX6_frost 2 = .ok (.iload_n 2, 1) := by decide +kernel
theorem dX6_frost_3 : decode cX6_frost 3 = .ok (.iload_n 3, 1) := by decide +kernel
theorem dX6_frost_4 : decode cX6_frost 4 = .ok (.iload 4, 2) := by decide +kernel
theorem dX6_frost_6 : decode cX6_frost 6 = .ok (.invokevirtual 238, 3) := by decide +kernel
theorem dX6_frost_9 : decode cX6_frost 9 = .ok (.ifCond .eq 37, 3) := by decide +kernel
theorem dX6_frost_46 : decode cX6_frost 46 = .ok (.aload_n 0, 1) := by decide +kernel
theorem dX6_frost_47 : decode cX6_frost 47 = .ok (.bipush (-2), 2) := by decide +kernel
theorem dX6_frost_49 : decode cX6_frost 49 = .ok (.invokevirtual 70, 3) := by decide +kernel
theorem dX6_frost_52 : decode cX6_frost 52 = .ok (.i2l, 1) := by decide +kernel
theorem dX6_frost_53 : decode cX6_frost 53 = .ok (.lreturn, 1) := by decide +kernel
theorem dX6_goes_0 : decode cX6_goes 0 = .ok (.aload_n 0, 1) := by decide +kernel
theorem dX6_goes_1 : decode cX6_goes 1 = .ok (.iload_n 1, 1) := by decide +kernel
theorem dX6_goes_2 : decode cX6_goes 2 = .ok (.iload_n 2, 1) := by decide +kernel
theorem dX6_goes_3 : decode cX6_goes 3 = .ok (.invokevirtual 200, 3) := by decide +kernel
theorem dX6_goes_6 : decode cX6_goes 6 = .ok (.ifCond .eq 21, 3) := by decide +kernel
theorem dX6_goes_27 : decode cX6_goes 27 = .ok (.aload_n 0, 1) := by decide +kernel
theorem dX6_goes_28 : decode cX6_goes 28 = .ok (.bipush (-2), 2) := by decide +kernel
theorem dX6_goes_30 : decode cX6_goes 30 = .ok (.invokevirtual 70, 3) := by decide +kernel
theorem dX6_goes_33 : decode cX6_goes 33 = .ok (.ireturn, 1) := by decide +kernel
theorem dX6_hang_0 : decode cX6_hang 0 = .ok (.aload_n 0, 1) := by decide +kernel
theorem dX6_hang_1 : decode cX6_hang 1 = .ok (.iload_n 1, 1) := by decide +kernel
theorem dX6_hang_2 : decode cX6_hang 2 = .ok (.iload_n 2, 1) := by decide +kernel
theorem dX6_hang_3 : decode cX6_hang 3 = .ok (.iload_n 3, 1) := by decide +kernel
theorem dX6_hang_4 : decode cX6_hang 4 = .ok (.iload 4, 2) := by decide +kernel
theorem dX6_hang_6 : decode cX6_hang 6 = .ok (.invokevirtual 238, 3) := by decide +kernel
theorem dX6_hang_9 : decode cX6_hang 9 = .ok (.ifCond .ne 10, 3) := by decide +kernel
theorem dX6_hang_12 : decode cX6_hang 12 = .ok (.aload_n 0, 1) := by decide +kernel
theorem dX6_hang_13 : decode cX6_hang 13 = .ok (.bipush (-2), 2) := by decide +kernel
theorem dX6_hang_15 : decode cX6_hang 15 = .ok (.invokevirtual 70, 3) := by decide +kernel
theorem dX6_hang_18 : decode cX6_hang 18 = .ok (.ireturn, 1) := by decide +kernel
theorem dX6_holds_0 : decode cX6_holds 0 = .ok (.iload_n 1, 1) := by decide +kernel
theorem dX6_holds_1 : decode cX6_holds 1 = .ok (.invokestatic 62, 3) := by decide +kernel
theorem dX6_holds_4 : decode cX6_holds 4 = .ok (.ifCond .eq 15, 3) := by decide +kernel
theorem dX6_holds_7 : decode cX6_holds 7 = .ok (.aload_n 0, 1) := by decide +kernel
theorem dX6_holds_8 : decode cX6_holds 8 = .ok (.getfield 35, 3) := by decide +kernel
theorem dX6_holds_11 : decode cX6_holds 11 = .ok (.getfield 109, 3) := by decide +kernel
theorem dX6_holds_14 : decode cX6_holds 14 = .ok (.iload_n 1, 1) := by decide +kernel
theorem dX6_holds_15 : decode cX6_holds 15 = .ok (.iaload, 1) := by decide +kernel
theorem dX6_holds_16 : decode cX6_holds 16 = .ok (.goto 4, 3) := by decide +kernel
theorem dX6_holds_19 : decode cX6_holds 19 = .ok (.iconst (-1), 1) := by decide +kernel
theorem dX6_holds_20 : decode cX6_holds 20 = .ok (.ireturn, 1) := by decide +kernel
theorem dX6_image_0 : decode cX6_image 0 = .ok (.aload_n 0, 1) := by decide +kernel
theorem dX6_image_1 : decode cX6_image 1 = .ok (.getfield 16, 3) := by decide +kernel
theorem dX6_image_4 : decode cX6_image 4 = .ok (.aload_n 0, 1) := by decide +kernel
theorem dX6_image_5 : decode cX6_image 5 = .ok (.getfield 10, 3) := by decide +kernel
theorem dX6_image_8 : decode cX6_image 8 = .ok (.invokevirtual 314, 3) := by decide +kernel
theorem dX6_image_11 : decode cX6_image 11 = .ok (.aload_n 0, 1) := by decide +kernel
theorem dX6_image_12 : decode cX6_image 12 = .ok (.iconst 1, 1) := by decide +kernel
theorem dX6_image_13 : decode cX6_image 13 = .ok (.putfield 19, 3) := by decide +kernel
theorem dX6_image_16 : decode cX6_image 16 = .ok (.iconst 1, 1) := by decide +kernel
theorem dX6_image_17 : decode cX6_image 17 = .ok (.ireturn, 1) := by decide +kernel
theorem dX6_isBridge_0 : decode cX6_isBridge 0 = .ok (.iload_n 1, 1) := by decide +kernel
theorem dX6_isBridge_1 : decode cX6_isBridge 1 = .ok (.iconst 0, 1) := by decide +kernel
theorem dX6_isBridge_2 : decode cX6_isBridge 2 = .ok (.aload_n 0, 1) := by decide +kernel
theorem dX6_isBridge_3 : decode cX6_isBridge 3 = .ok (.getfield 10, 3) := by decide +kernel
theorem dX6_isBridge_6 : decode cX6_isBridge 6 = .ok (.getfield 273, 3) := by decide +kernel
theorem dX6_isBridge_9 : decode cX6_isBridge 9 = .ok (.iconst 1, 1) := by decide +kernel
theorem dX6_isBridge_10 : decode cX6_isBridge 10 = .ok (.iaload, 1) := by decide +kernel
theorem dX6_isBridge_11 : decode cX6_isBridge 11 = .ok (.iconst 1, 1) := by decide +kernel
theorem dX6_isBridge_12 : decode cX6_isBridge 12 = .ok (.isub, 1) := by decide +kernel
theorem dX6_isBridge_13 : decode cX6_isBridge 13 = .ok (.invokestatic 66, 3) := by decide +kernel
theorem dX6_isBridge_16 : decode cX6_isBridge 16 = .ok (.ireturn, 1) := by decide +kernel
theorem dX6_isJourney_0 : decode cX6_isJourney 0 = .ok (.aload_n 0, 1) := by decide +kernel
theorem dX6_isJourney_1 : decode cX6_isJourney 1 = .ok (.iload_n 1, 1) := by decide +kernel
theorem dX6_isJourney_2 : decode cX6_isJourney 2 = .ok (.iload_n 2, 1) := by decide +kernel
theorem dX6_isJourney_3 : decode cX6_isJourney 3 = .ok (.invokevirtual 200, 3) := by decide +kernel
theorem dX6_isJourney_6 : decode cX6_isJourney 6 = .ok (.ifCond .eq 22, 3) := by decide +kernel
theorem dX6_isJourney_28 : decode cX6_isJourney 28 = .ok (.iconst 0, 1) := by decide +kernel
theorem dX6_isJourney_29 : decode cX6_isJourney 29 = .ok (.ireturn, 1) := by decide +kernel
theorem dX6_isPack_0 : decode cX6_isPack 0 = .ok (.aload_n 0, 1) := by decide +kernel
theorem dX6_isPack_1 : decode cX6_isPack 1 = .ok (.iload_n 1, 1) := by decide +kernel
theorem dX6_isPack_2 : decode cX6_isPack 2 = .ok (.invokevirtual 194, 3) := by decide +kernel
theorem dX6_isPack_5 : decode cX6_isPack 5 = .ok (.ifCond .eq 24, 3) := by decide +kernel
theorem dX6_isPack_29 : decode cX6_isPack 29 = .ok (.iconst 0, 1) := by decide +kernel
theorem dX6_isPack_30 : decode cX6_isPack 30 = .ok (.ireturn, 1) := by decide +kernel
theorem dX6_isPlace_0 : decode cX6_isPlace 0 = .ok (.iload_n 0, 1) := by decide +kernel
theorem dX6_isPlace_1 : decode cX6_isPlace 1 = .ok (.iconst 0, 1) := by decide +kernel
theorem dX6_isPlace_2 : decode cX6_isPlace 2 = .ok (.bipush 15, 2) := by decide +kernel
theorem dX6_isPlace_4 : decode cX6_isPlace 4 = .ok (.invokestatic 66, 3) := by decide +kernel
theorem dX6_isPlace_7 : decode cX6_isPlace 7 = .ok (.ireturn, 1) := by decide +kernel
theorem dX6_isRoad_0 : decode cX6_isRoad 0 = .ok (.iload_n 1, 1) := by decide +kernel
theorem dX6_isRoad_1 : decode cX6_isRoad 1 = .ok (.iconst 0, 1) := by decide +kernel
theorem dX6_isRoad_2 : decode cX6_isRoad 2 = .ok (.aload_n 0, 1) := by decide +kernel
theorem dX6_isRoad_3 : decode cX6_isRoad 3 = .ok (.getfield 10, 3) := by decide +kernel
theorem dX6_isRoad_6 : decode cX6_isRoad 6 = .ok (.getfield 273, 3) := by decide +kernel
theorem dX6_isRoad_9 : decode cX6_isRoad 9 = .ok (.iconst 0, 1) := by decide +kernel
theorem dX6_isRoad_10 : decode cX6_isRoad 10 = .ok (.iaload, 1) := by decide +kernel
theorem dX6_isRoad_11 : decode cX6_isRoad 11 = .ok (.iconst 1, 1) := by decide +kernel
theorem dX6_isRoad_12 : decode cX6_isRoad 12 = .ok (.isub, 1) := by decide +kernel
theorem dX6_isRoad_13 : decode cX6_isRoad 13 = .ok (.invokestatic 66, 3) := by decide +kernel
theorem dX6_isRoad_16 : decode cX6_isRoad 16 = .ok (.ireturn, 1) := by decide +kernel
theorem dX6_isShelf_0 : decode cX6_isShelf 0 = .ok (.iload_n 0, 1) := by decide +kernel
theorem dX6_isShelf_1 : decode cX6_isShelf 1 = .ok (.iconst 0, 1) := by decide +kernel
theorem dX6_isShelf_2 : decode cX6_isShelf 2 = .ok (.bipush 7, 2) := by decide +kernel
theorem dX6_isShelf_4 : decode cX6_isShelf 4 = .ok (.invokestatic 66, 3) := by decide +kernel
theorem dX6_isShelf_7 : decode cX6_isShelf 7 = .ok (.ireturn, 1) := by decide +kernel
theorem dX6_isWaggon_0 : decode cX6_isWaggon 0 = .ok (.iload_n 1, 1) := by decide +kernel
theorem dX6_isWaggon_1 : decode cX6_isWaggon 1 = .ok (.iconst 0, 1) := by decide +kernel
theorem dX6_isWaggon_2 : decode cX6_isWaggon 2 = .ok (.aload_n 0, 1) := by decide +kernel
theorem dX6_isWaggon_3 : decode cX6_isWaggon 3 = .ok (.getfield 10, 3) := by decide +kernel
theorem dX6_isWaggon_6 : decode cX6_isWaggon 6 = .ok (.getfield 273, 3) := by decide +kernel
theorem dX6_isWaggon_9 : decode cX6_isWaggon 9 = .ok (.iconst 2, 1) := by decide +kernel
theorem dX6_isWaggon_10 : decode cX6_isWaggon 10 = .ok (.iaload, 1) := by decide +kernel
theorem dX6_isWaggon_11 : decode cX6_isWaggon 11 = .ok (.iconst 1, 1) := by decide +kernel
theorem dX6_isWaggon_12 : decode cX6_isWaggon 12 = .ok (.isub, 1) := by decide +kernel
theorem dX6_isWaggon_13 : decode cX6_isWaggon 13 = .ok (.invokestatic 66, 3) := by decide +kernel
theorem dX6_isWaggon_16 : decode cX6_isWaggon 16 = .ok (.ireturn, 1) := by decide +kernel
theorem dX6_judge_0 : decode cX6_judge 0 = .ok (.aload_n 0, 1) := by decide +kernel
theorem dX6_judge_1 : decode cX6_judge 1 = .ok (.iload_n 1, 1) := by decide +kernel
theorem dX6_judge_2 : decode cX6_judge 2 = .ok (.iload_n 2, 1) := by decide +kernel
theorem dX6_judge_3 : decode cX6_judge 3 = .ok (.iload_n 3, 1) := by decide +kernel
theorem dX6_judge_4 : decode cX6_judge 4 = .ok (.iload 4, 2) := by decide +kernel
theorem dX6_judge_6 : decode cX6_judge 6 = .ok (.iload 5, 2) := by decide +kernel
theorem dX6_judge_8 : decode cX6_judge 8 = .ok (.invokevirtual 256, 3) := by decide +kernel
theorem dX6_judge_11 : decode cX6_judge 11 = .ok (.istore 6, 2) := by decide +kernel
theorem dX6_judge_13 : decode cX6_judge 13 = .ok (.iload 6, 2) := by decide +kernel
theorem dX6_judge_15 : decode cX6_judge 15 = .ok (.ifCond .eq 10, 3) := by decide +kernel
theorem dX6_judge_18 : decode cX6_judge 18 = .ok (.aload_n 0, 1) := by decide +kernel
theorem dX6_judge_19 : decode cX6_judge 19 = .ok (.iload 6, 2) := by decide +kernel
theorem dX6_judge_21 : decode cX6_judge 21 = .ok (.invokevirtual 70, 3) := by decide +kernel
theorem dX6_judge_24 : decode cX6_judge 24 = .ok (.ireturn, 1) := by decide +kernel
theorem dX6_land_0 : decode cX6_land 0 = .ok (.aload_n 0, 1) := by decide +kernel
theorem dX6_land_1 : decode cX6_land 1 = .ok (.getfield 51, 3) := by decide +kernel
theorem dX6_land_4 : decode cX6_land 4 = .ok (.invokevirtual 177, 3) := by decide +kernel
theorem dX6_land_7 : decode cX6_land 7 = .ok (.istore_n 1, 1) := by decide +kernel
theorem dX6_land_8 : decode cX6_land 8 = .ok (.aload_n 0, 1) := by decide +kernel
theorem dX6_land_9 : decode cX6_land 9 = .ok (.getfield 42, 3) := by decide +kernel
theorem dX6_land_12 : decode cX6_land 12 = .ok (.iconst 0, 1) := by decide +kernel
theorem dX6_land_13 : decode cX6_land 13 = .ok (.putfield 171, 3) := by decide +kernel
theorem dX6_land_16 : decode cX6_land 16 = .ok (.aload_n 0, 1) := by decide +kernel
theorem dX6_land_17 : decode cX6_land 17 = .ok (.getfield 42, 3) := by decide +kernel
theorem dX6_land_20 : decode cX6_land 20 = .ok (.getfield 181, 3) := by decide +kernel
theorem dX6_land_23 : decode cX6_land 23 = .ok (.iconst (-1), 1) := by decide +kernel
theorem dX6_land_24 : decode cX6_land 24 = .ok (.if_icmp .eq 21, 3) := by decide +kernel
theorem dX6_land_27 : decode cX6_land 27 = .ok (.aload_n 0, 1) := by decide +kernel
theorem dX6_land_28 : decode cX6_land 28 = .ok (.bipush (-2), 2) := by decide +kernel
theorem dX6_land_30 : decode cX6_land 30 = .ok (.invokevirtual 70, 3) := by decide +kernel
theorem dX6_land_33 : decode cX6_land 33 = .ok (.pop, 1) := by decide +kernel
theorem dX6_land_34 : decode cX6_land 34 = .ok (.bipush (-20), 2) := by decide +kernel
theorem dX6_land_36 : decode cX6_land 36 = .ok (.aload_n 0, 1) := by decide +kernel
theorem dX6_land_37 : decode cX6_land 37 = .ok (.getfield 42, 3) := by decide +kernel
theorem dX6_land_40 : decode cX6_land 40 = .ok (.getfield 181, 3) := by decide +kernel
theorem dX6_land_43 : decode cX6_land 43 = .ok (.isub, 1) := by decide +kernel
theorem dX6_land_44 : decode cX6_land 44 = .ok (.ireturn, 1) := by decide +kernel
theorem dX6_length_0 : decode cX6_length 0 = .ok (.aload_n 0, 1) := by decide +kernel
theorem dX6_length_1 : decode cX6_length 1 = .ok (.iload_n 1, 1) := by decide +kernel
theorem dX6_length_2 : decode cX6_length 2 = .ok (.invokevirtual 194, 3) := by decide +kernel
theorem dX6_length_5 : decode cX6_length 5 = .ok (.ifCond .ne 10, 3) := by decide +kernel
theorem dX6_length_8 : decode cX6_length 8 = .ok (.aload_n 0, 1) := by decide +kernel
theorem dX6_length_9 : decode cX6_length 9 = .ok (.bipush (-2), 2) := by decide +kernel
theorem dX6_length_11 : decode cX6_length 11 = .ok (.invokevirtual 70, 3) := by decide +kernel
theorem dX6_length_14 : decode cX6_length 14 = .ok (.ireturn, 1) := by decide +kernel
theorem dX6_most_0 : decode cX6_most 0 = .ok (.aload_n 0, 1) := by decide +kernel
theorem dX6_most_1 : decode cX6_most 1 = .ok (.iload_n 1, 1) := by decide +kernel
theorem dX6_most_2 : decode cX6_most 2 = .ok (.invokevirtual 194, 3) := by decide +kernel
theorem dX6_most_5 : decode cX6_most 5 = .ok (.ifCond .eq 17, 3) := by decide +kernel
theorem dX6_most_22 : decode cX6_most 22 = .ok (.aload_n 0, 1) := by decide +kernel
theorem dX6_most_23 : decode cX6_most 23 = .ok (.bipush (-2), 2) := by decide +kernel
theorem dX6_most_25 : decode cX6_most 25 = .ok (.invokevirtual 70, 3) := by decide +kernel
theorem dX6_most_28 : decode cX6_most 28 = .ok (.ireturn, 1) := by decide +kernel
theorem dX6_needs_0 : decode cX6_needs 0 = .ok (.aload_n 0, 1) := by decide +kernel
theorem dX6_needs_1 : decode cX6_needs 1 = .ok (.iload_n 1, 1) := by decide +kernel
theorem dX6_needs_2 : decode cX6_needs 2 = .ok (.iload_n 2, 1) := by decide +kernel
theorem dX6_needs_3 : decode cX6_needs 3 = .ok (.invokevirtual 200, 3) := by decide +kernel
theorem dX6_needs_6 : decode cX6_needs 6 = .ok (.ifCond .eq 11, 3) := by decide +kernel
theorem dX6_needs_17 : decode cX6_needs 17 = .ok (.aload_n 0, 1) := by decide +kernel
theorem dX6_needs_18 : decode cX6_needs 18 = .ok (.bipush (-2), 2) := by decide +kernel
theorem dX6_needs_20 : decode cX6_needs 20 = .ok (.invokevirtual 70, 3) := by decide +kernel
theorem dX6_needs_23 : decode cX6_needs 23 = .ok (.ireturn, 1) := by decide +kernel
theorem dX6_part_0 : decode cX6_part 0 = .ok (.iload_n 1, 1) := by decide +kernel
theorem dX6_part_1 : decode cX6_part 1 = .ok (.iconst 1, 1) := by decide +kernel
theorem dX6_part_2 : decode cX6_part 2 = .ok (.bipush 99, 2) := by decide +kernel
theorem dX6_part_4 : decode cX6_part 4 = .ok (.invokestatic 66, 3) := by decide +kernel
theorem dX6_part_7 : decode cX6_part 7 = .ok (.ifCond .eq 13, 3) := by decide +kernel
theorem dX6_part_10 : decode cX6_part 10 = .ok (.iload_n 2, 1) := by decide +kernel
theorem dX6_part_11 : decode cX6_part 11 = .ok (.iconst 0, 1) := by decide +kernel
theorem dX6_part_12 : decode cX6_part 12 = .ok (.bipush 99, 2) := by decide +kernel
theorem dX6_part_14 : decode cX6_part 14 = .ok (.invokestatic 66, 3) := by decide +kernel
theorem dX6_part_17 : decode cX6_part 17 = .ok (.ifCond .ne 10, 3) := by decide +kernel
theorem dX6_part_20 : decode cX6_part 20 = .ok (.aload_n 0, 1) := by decide +kernel
theorem dX6_part_21 : decode cX6_part 21 = .ok (.bipush (-2), 2) := by decide +kernel
theorem dX6_part_23 : decode cX6_part 23 = .ok (.invokevirtual 70, 3) := by decide +kernel
theorem dX6_part_26 : decode cX6_part 26 = .ok (.ireturn, 1) := by decide +kernel
theorem dX6_part_27 : decode cX6_part 27 = .ok (.aload_n 0, 1) := by decide +kernel
theorem dX6_part_28 : decode cX6_part 28 = .ok (.getfield 10, 3) := by decide +kernel
theorem dX6_part_31 : decode cX6_part 31 = .ok (.iconst 3, 1) := by decide +kernel
theorem dX6_part_32 : decode cX6_part 32 = .ok (.invokevirtual 129, 3) := by decide +kernel
theorem dX6_part_35 : decode cX6_part 35 = .ok (.ifCond .ne 10, 3) := by decide +kernel
theorem dX6_part_45 : decode cX6_part 45 = .ok (.aload_n 0, 1) := by decide +kernel
theorem dX6_part_46 : decode cX6_part 46 = .ok (.getfield 10, 3) := by decide +kernel
theorem dX6_part_49 : decode cX6_part 49 = .ok (.iload_n 1, 1) := by decide +kernel
theorem dX6_part_50 : decode cX6_part 50 = .ok (.iload_n 2, 1) := by decide +kernel
theorem dX6_part_51 : decode cX6_part 51 = .ok (.invokevirtual 150, 3) := by decide +kernel
theorem dX6_part_54 : decode cX6_part 54 = .ok (.ireturn, 1) := by decide +kernel
theorem dX6_prop_0 : decode cX6_prop 0 = .ok (.aload_n 0, 1) := by decide +kernel
theorem dX6_prop_1 : decode cX6_prop 1 = .ok (.iload_n 1, 1) := by decide +kernel
theorem dX6_prop_2 : decode cX6_prop 2 = .ok (.invokevirtual 112, 3) := by decide +kernel
theorem dX6_prop_5 : decode cX6_prop 5 = .ok (.ifCond .eq 25, 3) := by decide +kernel
theorem dX6_prop_30 : decode cX6_prop 30 = .ok (.aload_n 0, 1) := by decide +kernel
theorem dX6_prop_31 : decode cX6_prop 31 = .ok (.bipush (-2), 2) := by decide +kernel
theorem dX6_prop_33 : decode cX6_prop 33 = .ok (.invokevirtual 70, 3) := by decide +kernel
theorem dX6_prop_36 : decode cX6_prop 36 = .ok (.ireturn, 1) := by decide +kernel
theorem dX6_reach_0 : decode cX6_reach 0 = .ok (.aload_n 0, 1) := by decide +kernel
theorem dX6_reach_1 : decode cX6_reach 1 = .ok (.iload_n 1, 1) := by decide +kernel
theorem dX6_reach_2 : decode cX6_reach 2 = .ok (.iload_n 2, 1) := by decide +kernel
theorem dX6_reach_3 : decode cX6_reach 3 = .ok (.invokevirtual 200, 3) := by decide +kernel
theorem dX6_reach_6 : decode cX6_reach 6 = .ok (.ifCond .eq 10, 3) := by decide +kernel
theorem dX6_reach_16 : decode cX6_reach 16 = .ok (.aload_n 0, 1) := by decide +kernel
theorem dX6_reach_17 : decode cX6_reach 17 = .ok (.bipush (-2), 2) := by decide +kernel
theorem dX6_reach_19 : decode cX6_reach 19 = .ok (.invokevirtual 70, 3) := by decide +kernel
theorem dX6_reach_22 : decode cX6_reach 22 = .ok (.ireturn, 1) := by decide +kernel
theorem dX6_refuse_0 : decode cX6_refuse 0 = .ok (.bipush (-2), 2) := by decide +kernel
theorem dX6_refuse_2 : decode cX6_refuse 2 = .ok (.iload_n 1, 1) := by decide +kernel
theorem dX6_refuse_3 : decode cX6_refuse 3 = .ok (.isub, 1) := by decide +kernel
theorem dX6_refuse_4 : decode cX6_refuse 4 = .ok (.istore_n 2, 1) := by decide +kernel
theorem dX6_refuse_5 : decode cX6_refuse 5 = .ok (.iload_n 2, 1) := by decide +kernel
theorem dX6_refuse_6 : decode cX6_refuse 6 = .ok (.iconst 0, 1) := by decide +kernel
theorem dX6_refuse_7 : decode cX6_refuse 7 = .ok (.iconst 4, 1) := by decide +kernel
theorem dX6_refuse_8 : decode cX6_refuse 8 = .ok (.invokestatic 66, 3) := by decide +kernel
theorem dX6_refuse_11 : decode cX6_refuse 11 = .ok (.ifCond .eq 13, 3) := by decide +kernel
theorem dX6_refuse_14 : decode cX6_refuse 14 = .ok (.aload_n 0, 1) := by decide +kernel
theorem dX6_refuse_15 : decode cX6_refuse 15 = .ok (.getfield 55, 3) := by decide +kernel
theorem dX6_refuse_18 : decode cX6_refuse 18 = .ok (.iload_n 2, 1) := by decide +kernel
theorem dX6_refuse_19 : decode cX6_refuse 19 = .ok (.dup2, 1) := by decide +kernel
theorem dX6_refuse_20 : decode cX6_refuse 20 = .ok (.iaload, 1) := by decide +kernel
theorem dX6_refuse_21 : decode cX6_refuse 21 = .ok (.iconst 1, 1) := by decide +kernel
theorem dX6_refuse_22 : decode cX6_refuse 22 = .ok (.iadd, 1) := by decide +kernel
theorem dX6_refuse_23 : decode cX6_refuse 23 = .ok (.iastore, 1) := by decide +kernel
theorem dX6_refuse_24 : decode cX6_refuse 24 = .ok (.iload_n 1, 1) := by decide +kernel
theorem dX6_refuse_25 : decode cX6_refuse 25 = .ok (.ireturn, 1) := by decide +kernel
theorem dX6_road_0 : decode cX6_road 0 = .ok (.iload_n 1, 1) := by decide +kernel
theorem dX6_road_1 : decode cX6_road 1 = .ok (.invokestatic 126, 3) := by decide +kernel
theorem dX6_road_4 : decode cX6_road 4 = .ok (.ifCond .eq 58, 3) := by decide +kernel
theorem dX6_road_7 : decode cX6_road 7 = .ok (.iload_n 2, 1) := by decide +kernel
theorem dX6_road_8 : decode cX6_road 8 = .ok (.invokestatic 126, 3) := by decide +kernel
theorem dX6_road_11 : decode cX6_road 11 = .ok (.ifCond .eq 51, 3) := by decide +kernel
theorem dX6_road_14 : decode cX6_road 14 = .ok (.iload_n 1, 1) := by decide +kernel
theorem dX6_road_15 : decode cX6_road 15 = .ok (.iload_n 2, 1) := by decide +kernel
theorem dX6_road_16 : decode cX6_road 16 = .ok (.if_icmp .eq 46, 3) := by decide +kernel
theorem dX6_road_19 : decode cX6_road 19 = .ok (.iload_n 3, 1) := by decide +kernel
theorem dX6_road_20 : decode cX6_road 20 = .ok (.iconst 1, 1) := by decide +kernel
theorem dX6_road_21 : decode cX6_road 21 = .ok (.bipush 60, 2) := by decide +kernel
theorem dX6_road_23 : decode cX6_road 23 = .ok (.invokestatic 66, 3) := by decide +kernel
theorem dX6_road_26 : decode cX6_road 26 = .ok (.ifCond .eq 36, 3) := by decide +kernel
theorem dX6_road_29 : decode cX6_road 29 = .ok (.iload 4, 2) := by decide +kernel
theorem dX6_road_31 : decode cX6_road 31 = .ok (.iconst 0, 1) := by decide +kernel
theorem dX6_road_32 : decode cX6_road 32 = .ok (.bipush 9, 2) := by decide +kernel
theorem dX6_road_34 : decode cX6_road 34 = .ok (.invokestatic 66, 3) := by decide +kernel
theorem dX6_road_37 : decode cX6_road 37 = .ok (.ifCond .eq 25, 3) := by decide +kernel
theorem dX6_road_40 : decode cX6_road 40 = .ok (.iload 5, 2) := by decide +kernel
theorem dX6_road_42 : decode cX6_road 42 = .ok (.iconst 1, 1) := by decide +kernel
theorem dX6_road_43 : decode cX6_road 43 = .ok (.bipush 99, 2) := by decide +kernel
theorem dX6_road_45 : decode cX6_road 45 = .ok (.invokestatic 66, 3) := by decide +kernel
theorem dX6_road_48 : decode cX6_road 48 = .ok (.ifCond .eq 14, 3) := by decide +kernel
theorem dX6_road_51 : decode cX6_road 51 = .ok (.iload 6, 2) := by decide +kernel
theorem dX6_road_53 : decode cX6_road 53 = .ok (.iconst 0, 1) := by decide +kernel
theorem dX6_road_54 : decode cX6_road 54 = .ok (.bipush 15, 2) := by decide +kernel
theorem dX6_road_56 : decode cX6_road 56 = .ok (.invokestatic 66, 3) := by decide +kernel
theorem dX6_road_59 : decode cX6_road 59 = .ok (.ifCond .ne 10, 3) := by decide +kernel
theorem dX6_road_62 : decode cX6_road 62 = .ok (.aload_n 0, 1) := by decide +kernel
theorem dX6_road_63 : decode cX6_road 63 = .ok (.bipush (-2), 2) := by decide +kernel
theorem dX6_road_65 : decode cX6_road 65 = .ok (.invokevirtual 70, 3) := by decide +kernel
theorem dX6_road_68 : decode cX6_road 68 = .ok (.ireturn, 1) := by decide +kernel
theorem dX6_road_69 : decode cX6_road 69 = .ok (.aload_n 0, 1) := by decide +kernel
theorem dX6_road_70 : decode cX6_road 70 = .ok (.getfield 10, 3) := by decide +kernel
theorem dX6_road_73 : decode cX6_road 73 = .ok (.iconst 0, 1) := by decide +kernel
theorem dX6_road_74 : decode cX6_road 74 = .ok (.invokevirtual 129, 3) := by decide +kernel
theorem dX6_road_77 : decode cX6_road 77 = .ok (.ifCond .ne 10, 3) := by decide +kernel
theorem dX6_road_87 : decode cX6_road 87 = .ok (.aload_n 0, 1) := by decide +kernel
theorem dX6_road_88 : decode cX6_road 88 = .ok (.getfield 10, 3) := by decide +kernel
theorem dX6_road_91 : decode cX6_road 91 = .ok (.iload_n 1, 1) := by decide +kernel
theorem dX6_road_92 : decode cX6_road 92 = .ok (.iload_n 2, 1) := by decide +kernel
theorem dX6_road_93 : decode cX6_road 93 = .ok (.iload_n 3, 1) := by decide +kernel
theorem dX6_road_94 : decode cX6_road 94 = .ok (.iload 4, 2) := by decide +kernel
theorem dX6_road_96 : decode cX6_road 96 = .ok (.iload 5, 2) := by decide +kernel
theorem dX6_road_98 : decode cX6_road 98 = .ok (.iload 6, 2) := by decide +kernel
theorem dX6_road_100 : decode cX6_road 100 = .ok (.invokevirtual 132, 3) := by decide +kernel
theorem dX6_road_103 : decode cX6_road 103 = .ok (.ireturn, 1) := by decide +kernel
theorem dX6_roadOf_0 : decode cX6_roadOf 0 = .ok (.aload_n 0, 1) := by decide +kernel
theorem dX6_roadOf_1 : decode cX6_roadOf 1 = .ok (.iload_n 1, 1) := by decide +kernel
theorem dX6_roadOf_2 : decode cX6_roadOf 2 = .ok (.invokevirtual 136, 3) := by decide +kernel
theorem dX6_roadOf_5 : decode cX6_roadOf 5 = .ok (.ifCond .eq 13, 3) := by decide +kernel
theorem dX6_roadOf_18 : decode cX6_roadOf 18 = .ok (.aload_n 0, 1) := by decide +kernel
theorem dX6_roadOf_19 : decode cX6_roadOf 19 = .ok (.bipush (-2), 2) := by decide +kernel
theorem dX6_roadOf_21 : decode cX6_roadOf 21 = .ok (.invokevirtual 70, 3) := by decide +kernel
theorem dX6_roadOf_24 : decode cX6_roadOf 24 = .ok (.ireturn, 1) := by decide +kernel
theorem dX6_says_0 : decode cX6_says 0 = .ok (.iload_n 1, 1) := by decide +kernel
theorem dX6_says_1 : decode cX6_says 1 = .ok (.invokestatic 62, 3) := by decide +kernel
theorem dX6_says_4 : decode cX6_says 4 = .ok (.ifCond .eq 12, 3) := by decide +kernel
theorem dX6_says_7 : decode cX6_says 7 = .ok (.iload_n 2, 1) := by decide +kernel
theorem dX6_says_8 : decode cX6_says 8 = .ok (.iconst 0, 1) := by decide +kernel
theorem dX6_says_9 : decode cX6_says 9 = .ok (.iconst 5, 1) := by decide +kernel
theorem dX6_says_10 : decode cX6_says 10 = .ok (.invokestatic 66, 3) := by decide +kernel
theorem dX6_says_13 : decode cX6_says 13 = .ok (.ifCond .ne 10, 3) := by decide +kernel
theorem dX6_says_16 : decode cX6_says 16 = .ok (.aload_n 0, 1) := by decide +kernel
theorem dX6_says_17 : decode cX6_says 17 = .ok (.bipush (-2), 2) := by decide +kernel
theorem dX6_says_19 : decode cX6_says 19 = .ok (.invokevirtual 70, 3) := by decide +kernel
theorem dX6_says_22 : decode cX6_says 22 = .ok (.ireturn, 1) := by decide +kernel
theorem dX6_says_23 : decode cX6_says 23 = .ok (.aload_n 0, 1) := by decide +kernel
theorem dX6_says_24 : decode cX6_says 24 = .ok (.getfield 35, 3) := by decide +kernel
theorem dX6_says_27 : decode cX6_says 27 = .ok (.iload_n 1, 1) := by decide +kernel
theorem dX6_says_28 : decode cX6_says 28 = .ok (.invokevirtual 102, 3) := by decide +kernel
theorem dX6_says_31 : decode cX6_says 31 = .ok (.ifCond .eq 10, 3) := by decide +kernel
theorem dX6_says_41 : decode cX6_says 41 = .ok (.aload_n 0, 1) := by decide +kernel
theorem dX6_says_42 : decode cX6_says 42 = .ok (.getfield 35, 3) := by decide +kernel
theorem dX6_says_45 : decode cX6_says 45 = .ok (.getfield 109, 3) := by decide +kernel
theorem dX6_says_48 : decode cX6_says 48 = .ok (.iload_n 1, 1) := by decide +kernel
theorem dX6_says_49 : decode cX6_says 49 = .ok (.iaload, 1) := by decide +kernel
theorem dX6_says_50 : decode cX6_says 50 = .ok (.bipush 10, 2) := by decide +kernel
theorem dX6_says_52 : decode cX6_says 52 = .ok (.isub, 1) := by decide +kernel
theorem dX6_says_53 : decode cX6_says 53 = .ok (.istore_n 3, 1) := by decide +kernel
theorem dX6_says_54 : decode cX6_says 54 = .ok (.aload_n 0, 1) := by decide +kernel
theorem dX6_says_55 : decode cX6_says 55 = .ok (.iload_n 3, 1) := by decide +kernel
theorem dX6_says_56 : decode cX6_says 56 = .ok (.invokevirtual 112, 3) := by decide +kernel
theorem dX6_says_59 : decode cX6_says 59 = .ok (.ifCond .ne 10, 3) := by decide +kernel
theorem dX6_says_62 : decode cX6_says 62 = .ok (.aload_n 0, 1) := by decide +kernel
theorem dX6_says_63 : decode cX6_says 63 = .ok (.bipush (-4), 2) := by decide +kernel
theorem dX6_says_65 : decode cX6_says 65 = .ok (.invokevirtual 70, 3) := by decide +kernel
theorem dX6_says_68 : decode cX6_says 68 = .ok (.ireturn, 1) := by decide +kernel
theorem dX6_set_0 : decode cX6_set 0 = .ok (.aload_n 0, 1) := by decide +kernel
theorem dX6_set_1 : decode cX6_set 1 = .ok (.iload_n 1, 1) := by decide +kernel
theorem dX6_set_2 : decode cX6_set 2 = .ok (.invokevirtual 78, 3) := by decide +kernel
theorem dX6_set_5 : decode cX6_set 5 = .ok (.istore 5, 2) := by decide +kernel
theorem dX6_set_7 : decode cX6_set 7 = .ok (.iload 5, 2) := by decide +kernel
theorem dX6_set_9 : decode cX6_set 9 = .ok (.ifCond .eq 10, 3) := by decide +kernel
theorem dX6_set_12 : decode cX6_set 12 = .ok (.aload_n 0, 1) := by decide +kernel
theorem dX6_set_13 : decode cX6_set 13 = .ok (.iload 5, 2) := by decide +kernel
theorem dX6_set_15 : decode cX6_set 15 = .ok (.invokevirtual 70, 3) := by decide +kernel
theorem dX6_set_18 : decode cX6_set 18 = .ok (.ireturn, 1) := by decide +kernel
theorem dX6_show_0 : decode cX6_show 0 = .ok (.iload_n 1, 1) := by decide +kernel
theorem dX6_show_1 : decode cX6_show 1 = .ok (.invokestatic 62, 3) := by decide +kernel
theorem dX6_show_4 : decode cX6_show 4 = .ok (.ifCond .eq 16, 3) := by decide +kernel
theorem dX6_show_7 : decode cX6_show 7 = .ok (.iload_n 2, 1) := by decide +kernel
theorem dX6_show_8 : decode cX6_show 8 = .ok (.iconst (-1), 1) := by decide +kernel
theorem dX6_show_9 : decode cX6_show 9 = .ok (.if_icmp .eq 18, 3) := by decide +kernel
theorem dX6_show_12 : decode cX6_show 12 = .ok (.aload_n 0, 1) := by decide +kernel
theorem dX6_show_13 : decode cX6_show 13 = .ok (.iload_n 2, 1) := by decide +kernel
theorem dX6_show_14 : decode cX6_show 14 = .ok (.invokevirtual 112, 3) := by decide +kernel
theorem dX6_show_17 : decode cX6_show 17 = .ok (.ifCond .ne 10, 3) := by decide +kernel
theorem dX6_show_20 : decode cX6_show 20 = .ok (.aload_n 0, 1) := by decide +kernel
theorem dX6_show_21 : decode cX6_show 21 = .ok (.bipush (-2), 2) := by decide +kernel
theorem dX6_show_23 : decode cX6_show 23 = .ok (.invokevirtual 70, 3) := by decide +kernel
theorem dX6_show_26 : decode cX6_show 26 = .ok (.ireturn, 1) := by decide +kernel
theorem dX6_show_27 : decode cX6_show 27 = .ok (.aload_n 0, 1) := by decide +kernel
theorem dX6_show_28 : decode cX6_show 28 = .ok (.getfield 35, 3) := by decide +kernel
theorem dX6_show_31 : decode cX6_show 31 = .ok (.iload_n 1, 1) := by decide +kernel
theorem dX6_show_32 : decode cX6_show 32 = .ok (.iload_n 2, 1) := by decide +kernel
theorem dX6_show_33 : decode cX6_show 33 = .ok (.invokevirtual 115, 3) := by decide +kernel
theorem dX6_show_36 : decode cX6_show 36 = .ok (.iconst 1, 1) := by decide +kernel
theorem dX6_show_37 : decode cX6_show 37 = .ok (.ireturn, 1) := by decide +kernel
theorem dX6_shut_0 : decode cX6_shut 0 = .ok (.aload_n 0, 1) := by decide +kernel
theorem dX6_shut_1 : decode cX6_shut 1 = .ok (.iload_n 1, 1) := by decide +kernel
theorem dX6_shut_2 : decode cX6_shut 2 = .ok (.invokevirtual 136, 3) := by decide +kernel
theorem dX6_shut_5 : decode cX6_shut 5 = .ok (.ifCond .ne 10, 3) := by decide +kernel
theorem dX6_shut_8 : decode cX6_shut 8 = .ok (.aload_n 0, 1) := by decide +kernel
theorem dX6_shut_9 : decode cX6_shut 9 = .ok (.bipush (-2), 2) := by decide +kernel
theorem dX6_shut_11 : decode cX6_shut 11 = .ok (.invokevirtual 70, 3) := by decide +kernel
theorem dX6_shut_14 : decode cX6_shut 14 = .ok (.ireturn, 1) := by decide +kernel
theorem dX6_soonest_0 : decode cX6_soonest 0 = .ok (.aload_n 0, 1) := by decide +kernel
theorem dX6_soonest_1 : decode cX6_soonest 1 = .ok (.iload_n 1, 1) := by decide +kernel
theorem dX6_soonest_2 : decode cX6_soonest 2 = .ok (.iload_n 2, 1) := by decide +kernel
theorem dX6_soonest_3 : decode cX6_soonest 3 = .ok (.iload_n 3, 1) := by decide +kernel
theorem dX6_soonest_4 : decode cX6_soonest 4 = .ok (.iload 4, 2) := by decide +kernel
theorem dX6_soonest_6 : decode cX6_soonest 6 = .ok (.invokevirtual 238, 3) := by decide +kernel
theorem dX6_soonest_9 : decode cX6_soonest 9 = .ok (.ifCond .ne 10, 3) := by decide +kernel
theorem dX6_soonest_12 : decode cX6_soonest 12 = .ok (.aload_n 0, 1) := by decide +kernel
theorem dX6_soonest_13 : decode cX6_soonest 13 = .ok (.bipush (-2), 2) := by decide +kernel
theorem dX6_soonest_15 : decode cX6_soonest 15 = .ok (.invokevirtual 70, 3) := by decide +kernel
theorem dX6_soonest_18 : decode cX6_soonest 18 = .ok (.ireturn, 1) := by decide +kernel
theorem dX6_stand_0 : decode cX6_stand 0 = .ok (.aload_n 0, 1) := by decide +kernel
theorem dX6_stand_1 : decode cX6_stand 1 = .ok (.iload_n 1, 1) := by decide +kernel
theorem dX6_stand_2 : decode cX6_stand 2 = .ok (.invokevirtual 112, 3) := by decide +kernel
theorem dX6_stand_5 : decode cX6_stand 5 = .ok (.ifCond .eq 12, 3) := by decide +kernel
theorem dX6_stand_17 : decode cX6_stand 17 = .ok (.aload_n 0, 1) := by decide +kernel
theorem dX6_stand_18 : decode cX6_stand 18 = .ok (.bipush (-2), 2) := by decide +kernel
theorem dX6_stand_20 : decode cX6_stand 20 = .ok (.invokevirtual 70, 3) := by decide +kernel
theorem dX6_stand_23 : decode cX6_stand 23 = .ok (.ireturn, 1) := by decide +kernel
theorem dX6_status_0 : decode cX6_status 0 = .ok (.iload_n 1, 1) := by decide +kernel
theorem dX6_status_1 : decode cX6_status 1 = .ok (.iconst 0, 1) := by decide +kernel
theorem dX6_status_2 : decode cX6_status 2 = .ok (.iconst 3, 1) := by decide +kernel
theorem dX6_status_3 : decode cX6_status 3 = .ok (.invokestatic 66, 3) := by decide +kernel
theorem dX6_status_6 : decode cX6_status 6 = .ok (.ifCond .eq 13, 3) := by decide +kernel
theorem dX6_status_9 : decode cX6_status 9 = .ok (.aload_n 0, 1) := by decide +kernel
theorem dX6_status_10 : decode cX6_status 10 = .ok (.getfield 10, 3) := by decide +kernel
theorem dX6_status_13 : decode cX6_status 13 = .ok (.getfield 273, 3) := by decide +kernel
theorem dX6_status_16 : decode cX6_status 16 = .ok (.iload_n 1, 1) := by decide +kernel
theorem dX6_status_17 : decode cX6_status 17 = .ok (.iaload, 1) := by decide +kernel
theorem dX6_status_18 : decode cX6_status 18 = .ok (.ireturn, 1) := by decide +kernel
theorem dX6_status_19 : decode cX6_status 19 = .ok (.iload_n 1, 1) := by decide +kernel
theorem dX6_status_20 : decode cX6_status 20 = .ok (.bipush 12, 2) := by decide +kernel
theorem dX6_status_22 : decode cX6_status 22 = .ok (.bipush 16, 2) := by decide +kernel
theorem dX6_status_24 : decode cX6_status 24 = .ok (.invokestatic 66, 3) := by decide +kernel
theorem dX6_status_27 : decode cX6_status 27 = .ok (.ifCond .eq 13, 3) := by decide +kernel
theorem dX6_status_30 : decode cX6_status 30 = .ok (.aload_n 0, 1) := by decide +kernel
theorem dX6_status_31 : decode cX6_status 31 = .ok (.getfield 55, 3) := by decide +kernel
theorem dX6_status_34 : decode cX6_status 34 = .ok (.iload_n 1, 1) := by decide +kernel
theorem dX6_status_35 : decode cX6_status 35 = .ok (.bipush 12, 2) := by decide +kernel
theorem dX6_status_37 : decode cX6_status 37 = .ok (.isub, 1) := by decide +kernel
theorem dX6_status_38 : decode cX6_status 38 = .ok (.iaload, 1) := by decide +kernel
theorem dX6_status_39 : decode cX6_status 39 = .ok (.ireturn, 1) := by decide +kernel
theorem dX6_status_40 : decode cX6_status 40 = .ok (.iload_n 1, 1) := by decide +kernel
theorem dX6_status_41 : decode cX6_status 41 = .ok (.tableswitch 67 4 7 #[31, 39, 47, 57], 31) := by decide +kernel
theorem dX6_status_72 : decode cX6_status 72 = .ok (.aload_n 0, 1) := by decide +kernel
theorem dX6_status_73 : decode cX6_status 73 = .ok (.getfield 42, 3) := by decide +kernel
theorem dX6_status_76 : decode cX6_status 76 = .ok (.getfield 171, 3) := by decide +kernel
theorem dX6_status_79 : decode cX6_status 79 = .ok (.ireturn, 1) := by decide +kernel
theorem dX6_status_80 : decode cX6_status 80 = .ok (.aload_n 0, 1) := by decide +kernel
theorem dX6_status_81 : decode cX6_status 81 = .ok (.getfield 35, 3) := by decide +kernel
theorem dX6_status_84 : decode cX6_status 84 = .ok (.invokevirtual 320, 3) := by decide +kernel
theorem dX6_status_87 : decode cX6_status 87 = .ok (.ireturn, 1) := by decide +kernel
theorem dX6_status_88 : decode cX6_status 88 = .ok (.aload_n 0, 1) := by decide +kernel
theorem dX6_status_89 : decode cX6_status 89 = .ok (.getfield 10, 3) := by decide +kernel
theorem dX6_status_92 : decode cX6_status 92 = .ok (.bipush 7, 2) := by decide +kernel
theorem dX6_status_94 : decode cX6_status 94 = .ok (.invokevirtual 323, 3) := by decide +kernel
theorem dX6_status_97 : decode cX6_status 97 = .ok (.ireturn, 1) := by decide +kernel
theorem dX6_status_98 : decode cX6_status 98 = .ok (.aload_n 0, 1) := by decide +kernel
theorem dX6_status_99 : decode cX6_status 99 = .ok (.getfield 10, 3) := by decide +kernel
theorem dX6_status_102 : decode cX6_status 102 = .ok (.bipush 8, 2) := by decide +kernel
theorem dX6_status_104 : decode cX6_status 104 = .ok (.invokevirtual 323, 3) := by decide +kernel
theorem dX6_status_107 : decode cX6_status 107 = .ok (.ireturn, 1) := by decide +kernel
theorem dX6_status_108 : decode cX6_status 108 = .ok (.iconst (-1), 1) := by decide +kernel
theorem dX6_status_109 : decode cX6_status 109 = .ok (.ireturn, 1) := by decide +kernel
theorem dX6_step_0 : decode cX6_step 0 = .ok (.aload_n 0, 1) := by decide +kernel
theorem dX6_step_1 : decode cX6_step 1 = .ok (.getfield 10, 3) := by decide +kernel
theorem dX6_step_4 : decode cX6_step 4 = .ok (.getfield 301, 3) := by decide +kernel
theorem dX6_step_7 : decode cX6_step 7 = .ok (.astore_n 1, 1) := by decide +kernel
theorem dX6_step_8 : decode cX6_step 8 = .ok (.aload_n 0, 1) := by decide +kernel
theorem dX6_step_9 : decode cX6_step 9 = .ok (.getfield 10, 3) := by decide +kernel
theorem dX6_step_12 : decode cX6_step 12 = .ok (.getfield 304, 3) := by decide +kernel
theorem dX6_step_15 : decode cX6_step 15 = .ok (.ifCond .eq 12, 3) := by decide +kernel
theorem dX6_step_27 : decode cX6_step 27 = .ok (.aload_n 0, 1) := by decide +kernel
theorem dX6_step_28 : decode cX6_step 28 = .ok (.bipush (-5), 2) := by decide +kernel
theorem dX6_step_30 : decode cX6_step 30 = .ok (.invokevirtual 70, 3) := by decide +kernel
theorem dX6_step_33 : decode cX6_step 33 = .ok (.ireturn, 1) := by decide +kernel
theorem dX6_strain_0 : decode cX6_strain 0 = .ok (.aload_n 0, 1) := by decide +kernel
theorem dX6_strain_1 : decode cX6_strain 1 = .ok (.iload_n 1, 1) := by decide +kernel
theorem dX6_strain_2 : decode cX6_strain 2 = .ok (.iload_n 2, 1) := by decide +kernel
theorem dX6_strain_3 : decode cX6_strain 3 = .ok (.invokevirtual 200, 3) := by decide +kernel
theorem dX6_strain_6 : decode cX6_strain 6 = .ok (.ifCond .eq 11, 3) := by decide +kernel
theorem dX6_strain_17 : decode cX6_strain 17 = .ok (.aload_n 0, 1) := by decide +kernel
theorem dX6_strain_18 : decode cX6_strain 18 = .ok (.bipush (-2), 2) := by decide +kernel
theorem dX6_strain_20 : decode cX6_strain 20 = .ok (.invokevirtual 70, 3) := by decide +kernel
theorem dX6_strain_23 : decode cX6_strain 23 = .ok (.ireturn, 1) := by decide +kernel
theorem dX6_told_0 : decode cX6_told 0 = .ok (.iload 6, 2) := by decide +kernel
theorem dX6_told_2 : decode cX6_told 2 = .ok (.iconst 0, 1) := by decide +kernel
theorem dX6_told_3 : decode cX6_told 3 = .ok (.iconst 3, 1) := by decide +kernel
theorem dX6_told_4 : decode cX6_told 4 = .ok (.invokestatic 66, 3) := by decide +kernel
theorem dX6_told_7 : decode cX6_told 7 = .ok (.ifCond .eq 17, 3) := by decide +kernel
theorem dX6_told_10 : decode cX6_told 10 = .ok (.aload_n 0, 1) := by decide +kernel
theorem dX6_told_11 : decode cX6_told 11 = .ok (.iload_n 1, 1) := by decide +kernel
theorem dX6_told_12 : decode cX6_told 12 = .ok (.iload_n 2, 1) := by decide +kernel
theorem dX6_told_13 : decode cX6_told 13 = .ok (.iload_n 3, 1) := by decide +kernel
theorem dX6_told_14 : decode cX6_told 14 = .ok (.iload 4, 2) := by decide +kernel
theorem dX6_told_16 : decode cX6_told 16 = .ok (.iload 5, 2) := by decide +kernel
theorem dX6_told_18 : decode cX6_told 18 = .ok (.invokevirtual 256, 3) := by decide +kernel
theorem dX6_told_21 : decode cX6_told 21 = .ok (.goto 5, 3) := by decide +kernel
theorem dX6_told_24 : decode cX6_told 24 = .ok (.bipush (-2), 2) := by decide +kernel
theorem dX6_told_26 : decode cX6_told 26 = .ok (.istore 7, 2) := by decide +kernel
theorem dX6_told_28 : decode cX6_told 28 = .ok (.iload 7, 2) := by decide +kernel
theorem dX6_told_30 : decode cX6_told 30 = .ok (.ifCond .eq 10, 3) := by decide +kernel
theorem dX6_told_33 : decode cX6_told 33 = .ok (.aload_n 0, 1) := by decide +kernel
theorem dX6_told_34 : decode cX6_told 34 = .ok (.iload 7, 2) := by decide +kernel
theorem dX6_told_36 : decode cX6_told 36 = .ok (.invokevirtual 70, 3) := by decide +kernel
theorem dX6_told_39 : decode cX6_told 39 = .ok (.ireturn, 1) := by decide +kernel
theorem dX6_under_0 : decode cX6_under 0 = .ok (.iload_n 1, 1) := by decide +kernel
theorem dX6_under_1 : decode cX6_under 1 = .ok (.iconst 0, 1) := by decide +kernel
theorem dX6_under_2 : decode cX6_under 2 = .ok (.iconst 4, 1) := by decide +kernel
theorem dX6_under_3 : decode cX6_under 3 = .ok (.invokestatic 66, 3) := by decide +kernel
theorem dX6_under_6 : decode cX6_under 6 = .ok (.ifCond .ne 10, 3) := by decide +kernel
theorem dX6_under_9 : decode cX6_under 9 = .ok (.aload_n 0, 1) := by decide +kernel
theorem dX6_under_10 : decode cX6_under 10 = .ok (.bipush (-2), 2) := by decide +kernel
theorem dX6_under_12 : decode cX6_under 12 = .ok (.invokevirtual 70, 3) := by decide +kernel
theorem dX6_under_15 : decode cX6_under 15 = .ok (.ireturn, 1) := by decide +kernel
theorem dX6_under_16 : decode cX6_under 16 = .ok (.aload_n 0, 1) := by decide +kernel
theorem dX6_under_17 : decode cX6_under 17 = .ok (.getfield 10, 3) := by decide +kernel
theorem dX6_under_20 : decode cX6_under 20 = .ok (.getfield 304, 3) := by decide +kernel
theorem dX6_under_23 : decode cX6_under 23 = .ok (.ifCond .eq 15, 3) := by decide +kernel
theorem dX6_under_38 : decode cX6_under 38 = .ok (.aload_n 0, 1) := by decide +kernel
theorem dX6_under_39 : decode cX6_under 39 = .ok (.bipush (-5), 2) := by decide +kernel
theorem dX6_under_41 : decode cX6_under 41 = .ok (.invokevirtual 70, 3) := by decide +kernel
theorem dX6_under_44 : decode cX6_under 44 = .ok (.ireturn, 1) := by decide +kernel
theorem dX6_waggon_0 : decode cX6_waggon 0 = .ok (.iload_n 1, 1) := by decide +kernel
theorem dX6_waggon_1 : decode cX6_waggon 1 = .ok (.iconst 2, 1) := by decide +kernel
theorem dX6_waggon_2 : decode cX6_waggon 2 = .ok (.bipush 12, 2) := by decide +kernel
theorem dX6_waggon_4 : decode cX6_waggon 4 = .ok (.invokestatic 66, 3) := by decide +kernel
theorem dX6_waggon_7 : decode cX6_waggon 7 = .ok (.ifCond .eq 23, 3) := by decide +kernel
theorem dX6_waggon_10 : decode cX6_waggon 10 = .ok (.iload_n 2, 1) := by decide +kernel
theorem dX6_waggon_11 : decode cX6_waggon 11 = .ok (.iconst 1, 1) := by decide +kernel
theorem dX6_waggon_12 : decode cX6_waggon 12 = .ok (.bipush 9, 2) := by decide +kernel
theorem dX6_waggon_14 : decode cX6_waggon 14 = .ok (.invokestatic 66, 3) := by decide +kernel
theorem dX6_waggon_17 : decode cX6_waggon 17 = .ok (.ifCond .eq 13, 3) := by decide +kernel
theorem dX6_waggon_20 : decode cX6_waggon 20 = .ok (.iload_n 3, 1) := by decide +kernel
theorem dX6_waggon_21 : decode cX6_waggon 21 = .ok (.iconst 0, 1) := by decide +kernel
theorem dX6_waggon_22 : decode cX6_waggon 22 = .ok (.bipush 99, 2) := by decide +kernel
theorem dX6_waggon_24 : decode cX6_waggon 24 = .ok (.invokestatic 66, 3) := by decide +kernel
theorem dX6_waggon_27 : decode cX6_waggon 27 = .ok (.ifCond .ne 10, 3) := by decide +kernel
theorem dX6_waggon_30 : decode cX6_waggon 30 = .ok (.aload_n 0, 1) := by decide +kernel
theorem dX6_waggon_31 : decode cX6_waggon 31 = .ok (.bipush (-2), 2) := by decide +kernel
theorem dX6_waggon_33 : decode cX6_waggon 33 = .ok (.invokevirtual 70, 3) := by decide +kernel
theorem dX6_waggon_36 : decode cX6_waggon 36 = .ok (.ireturn, 1) := by decide +kernel
theorem dX6_waggon_37 : decode cX6_waggon 37 = .ok (.aload_n 0, 1) := by decide +kernel
theorem dX6_waggon_38 : decode cX6_waggon 38 = .ok (.getfield 10, 3) := by decide +kernel
theorem dX6_waggon_41 : decode cX6_waggon 41 = .ok (.iconst 2, 1) := by decide +kernel
theorem dX6_waggon_42 : decode cX6_waggon 42 = .ok (.invokevirtual 129, 3) := by decide +kernel
theorem dX6_waggon_45 : decode cX6_waggon 45 = .ok (.ifCond .ne 10, 3) := by decide +kernel
theorem dX6_waggon_55 : decode cX6_waggon 55 = .ok (.aload_n 0, 1) := by decide +kernel
theorem dX6_waggon_56 : decode cX6_waggon 56 = .ok (.getfield 10, 3) := by decide +kernel
theorem dX6_waggon_59 : decode cX6_waggon 59 = .ok (.iload_n 1, 1) := by decide +kernel
theorem dX6_waggon_60 : decode cX6_waggon 60 = .ok (.iload_n 2, 1) := by decide +kernel
theorem dX6_waggon_61 : decode cX6_waggon 61 = .ok (.iload_n 3, 1) := by decide +kernel
theorem dX6_waggon_62 : decode cX6_waggon 62 = .ok (.invokevirtual 146, 3) := by decide +kernel
theorem dX6_waggon_65 : decode cX6_waggon 65 = .ok (.ireturn, 1) := by decide +kernel
theorem dX6_whyNoRow_0 : decode cX6_whyNoRow 0 = .ok (.iload_n 1, 1) := by decide +kernel
theorem dX6_whyNoRow_1 : decode cX6_whyNoRow 1 = .ok (.invokestatic 62, 3) := by decide +kernel
theorem dX6_whyNoRow_4 : decode cX6_whyNoRow 4 = .ok (.ifCond .ne 6, 3) := by decide +kernel
theorem dX6_whyNoRow_7 : decode cX6_whyNoRow 7 = .ok (.bipush (-2), 2) := by decide +kernel
theorem dX6_whyNoRow_9 : decode cX6_whyNoRow 9 = .ok (.ireturn, 1) := by decide +kernel
theorem dX6_whyNoRow_10 : decode cX6_whyNoRow 10 = .ok (.aload_n 0, 1) := by decide +kernel
theorem dX6_whyNoRow_11 : decode cX6_whyNoRow 11 = .ok (.getfield 35, 3) := by decide +kernel
theorem dX6_whyNoRow_14 : decode cX6_whyNoRow 14 = .ok (.iload_n 1, 1) := by decide +kernel
theorem dX6_whyNoRow_15 : decode cX6_whyNoRow 15 = .ok (.invokevirtual 88, 3) := by decide +kernel
theorem dX6_whyNoRow_18 : decode cX6_whyNoRow 18 = .ok (.ifCond .eq 6, 3) := by decide +kernel
theorem dX6_whyNoRow_24 : decode cX6_whyNoRow 24 = .ok (.aload_n 0, 1) := by decide +kernel
theorem dX6_whyNoRow_25 : decode cX6_whyNoRow 25 = .ok (.getfield 35, 3) := by decide +kernel
theorem dX6_whyNoRow_28 : decode cX6_whyNoRow 28 = .ok (.iload_n 1, 1) := by decide +kernel
theorem dX6_whyNoRow_29 : decode cX6_whyNoRow 29 = .ok (.invokevirtual 95, 3) := by decide +kernel
theorem dX6_whyNoRow_32 : decode cX6_whyNoRow 32 = .ok (.ifCond .eq 8, 3) := by decide +kernel
theorem dX6_whyNoRow_35 : decode cX6_whyNoRow 35 = .ok (.bipush (-4), 2) := by decide +kernel
theorem dX6_whyNoRow_37 : decode cX6_whyNoRow 37 = .ok (.goto 4, 3) := by decide +kernel
theorem dX6_whyNoRow_41 : decode cX6_whyNoRow 41 = .ok (.ireturn, 1) := by decide +kernel
theorem dX6_whyNotTold_0 : decode cX6_whyNotTold 0 = .ok (.aload_n 0, 1) := by decide +kernel
theorem dX6_whyNotTold_1 : decode cX6_whyNotTold 1 = .ok (.iload_n 1, 1) := by decide +kernel
theorem dX6_whyNotTold_2 : decode cX6_whyNotTold 2 = .ok (.iload_n 2, 1) := by decide +kernel
theorem dX6_whyNotTold_3 : decode cX6_whyNotTold 3 = .ok (.invokevirtual 200, 3) := by decide +kernel
theorem dX6_whyNotTold_6 : decode cX6_whyNotTold 6 = .ok (.ifCond .eq 29, 3) := by decide +kernel
theorem dX6_whyNotTold_35 : decode cX6_whyNotTold 35 = .ok (.bipush (-2), 2) := by decide +kernel
theorem dX6_whyNotTold_37 : decode cX6_whyNotTold 37 = .ok (.ireturn, 1) := by decide +kernel
theorem dX6_wipe_0 : decode cX6_wipe 0 = .ok (.aload_n 0, 1) := by decide +kernel
theorem dX6_wipe_1 : decode cX6_wipe 1 = .ok (.getfield 42, 3) := by decide +kernel
theorem dX6_wipe_4 : decode cX6_wipe 4 = .ok (.getfield 171, 3) := by decide +kernel
theorem dX6_wipe_7 : decode cX6_wipe 7 = .ok (.istore_n 1, 1) := by decide +kernel
theorem dX6_wipe_8 : decode cX6_wipe 8 = .ok (.aload_n 0, 1) := by decide +kernel
theorem dX6_wipe_9 : decode cX6_wipe 9 = .ok (.getfield 42, 3) := by decide +kernel
theorem dX6_wipe_12 : decode cX6_wipe 12 = .ok (.iconst 0, 1) := by decide +kernel
theorem dX6_wipe_13 : decode cX6_wipe 13 = .ok (.putfield 171, 3) := by decide +kernel
theorem dX6_wipe_16 : decode cX6_wipe 16 = .ok (.iload_n 1, 1) := by decide +kernel
theorem dX6_wipe_17 : decode cX6_wipe 17 = .ok (.ireturn, 1) := by decide +kernel
theorem dX6_within_0 : decode cX6_within 0 = .ok (.iload_n 0, 1) := by decide +kernel
theorem dX6_within_1 : decode cX6_within 1 = .ok (.iload_n 1, 1) := by decide +kernel
theorem dX6_within_2 : decode cX6_within 2 = .ok (.if_icmp .lt 12, 3) := by decide +kernel
theorem dX6_within_5 : decode cX6_within 5 = .ok (.iload_n 0, 1) := by decide +kernel
theorem dX6_within_6 : decode cX6_within 6 = .ok (.iload_n 2, 1) := by decide +kernel
theorem dX6_within_7 : decode cX6_within 7 = .ok (.if_icmp .gt 7, 3) := by decide +kernel
theorem dX6_within_10 : decode cX6_within 10 = .ok (.iconst 1, 1) := by decide +kernel
theorem dX6_within_11 : decode cX6_within 11 = .ok (.goto 4, 3) := by decide +kernel
theorem dX6_within_14 : decode cX6_within 14 = .ok (.iconst 0, 1) := by decide +kernel
theorem dX6_within_15 : decode cX6_within 15 = .ok (.ireturn, 1) := by decide +kernel
end
section
def fX6_within (v_v : Int32) (v_a : Int32) (v_b : Int32) : Int32 :=
  if v_v < v_a then 0 else if v_b < v_v then 0 else 1
theorem fX6_within_b (v_v : Int32) (v_a : Int32) (v_b : Int32) : fX6_within v_v v_a v_b = 0 ∨ fX6_within v_v v_a v_b = 1 := by
  unfold fX6_within
  repeat' split
  all_goals first | exact Or.inl rfl | exact Or.inr rfl
set_option maxHeartbeats 4000000 in
set_option maxRecDepth 100000 in
/-- within(v, least, most) -/
theorem c_X6_within (l : Launch) (D : va_G) (E : Nat → ClassId) (G : Nat → Nat) (v_v : Int32) (v_a : Int32) (v_b : Int32) : Met l yX6_within (oh_w yX6_within cX6_within 3 (some .boolean)) ({ frames := 0, cells := 0, slots := 0, locals := 0 }) (oh_Pp D E G [.int v_v, .int v_a, .int v_b] []) (vp_Si (fun r => r = fX6_within v_v v_a v_b)) 0 0 (fun _ => False) := by
  refine Met.ofW (cc := cX6_within) (maxL := 3) (ret := (some .boolean)) (by decide) rfl ?_
  intro p e s m args below meth c s₁ B hml hv
  obtain ⟨rfl, hP, hK, hG⟩ := hv
  have hx := B.exec
  have hb := B.bytes
  have hr := B.returns
  have hts := atoms_spec (ws := (oh_w yX6_within cX6_within 3 (some .boolean))) B.pre
  have htg : ∀ w ∈ oh_t, w.before _ s = true := fun w h => hts w (List.mem_cons_of_mem _ h)
  have hown : s.vm.findClass RX6 = some m.cls := findClass_of_methodNamed B.named
  have hlocks := B.notSynchronized
  have hS : va_S (fun _ => False) s.heap s.heap [] := va_S.rf
  have hl := lv_entry ([.int v_v, .int v_a, .int v_b]) (n := 3) (Nat.le_of_ble_eq_true rfl)
  rw [lg_entry_eq]
  generalize (lg_sl ([.int v_v, .int v_a, .int v_b]) ++ List.replicate (3 - (lg_sl ([.int v_v, .int v_a, .int v_b])).length) Slot.unset).toArray = ls at hl ⊢
  have hl : lv_has ls 3 [(0, .int v_v), (1, .int v_a), (2, .int v_b)] := hl
  refine lv_iload_n hx hb dX6_within_0 rfl (lv_at hl 0 rfl) ?_
  refine lv_iload_n hx hb dX6_within_1 rfl (lv_at hl 1 rfl) ?_
  refine lv_icmp_lt (tgt := 14) hx hb dX6_within_2 (by decide) (fun (c_1 : v_v < v_a) => ?_) (fun (c_1 : ¬ (v_v < v_a)) => ?_)
  · refine lv_iconst (v := 0) hx hb dX6_within_14 (by decide) ?_
    exact W.zret (v := 0) (ty := .boolean) hx hb hr (by decide) (fun t ht hW => ⟨0, rfl, by unfold fX6_within; rw [if_pos c_1], ht⟩) (fun q h => by cases h) dX6_within_15
  · refine lv_iload_n hx hb dX6_within_5 rfl (lv_at hl 0 rfl) ?_
    refine lv_iload_n hx hb dX6_within_6 rfl (lv_at hl 2 rfl) ?_
    refine lv_icmp_gt (tgt := 14) hx hb dX6_within_7 (by decide) (fun (c_2 : v_b < v_v) => ?_) (fun (c_2 : ¬ (v_b < v_v)) => ?_)
    · refine lv_iconst (v := 0) hx hb dX6_within_14 (by decide) ?_
      exact W.zret (v := 0) (ty := .boolean) hx hb hr (by decide) (fun t ht hW => ⟨0, rfl, by unfold fX6_within; rw [if_neg c_1, if_pos c_2], ht⟩) (fun q h => by cases h) dX6_within_15
    · refine lv_iconst (v := 1) hx hb dX6_within_10 (by decide) ?_
      refine lv_goto (tgt := 15) hx hb dX6_within_11 (by decide) ?_
      exact W.zret (v := 1) (ty := .boolean) hx hb hr (by decide) (fun t ht hW => ⟨1, rfl, by unfold fX6_within; rw [if_neg c_1, if_neg c_2], ht⟩) (fun q h => by cases h) dX6_within_15
theorem oh_nb {v : Int32} (h : v = 0 ∨ v = 1) : narrow .boolean (.int v) = .int v := by
  rcases h with rfl | rfl <;> rfl
theorem oh_win {v k : Int32} {n : Nat} (h : ¬ fX6_within v 0 k = 0) (hk : k.toInt + 1 = n) : vp_in v n := by
  rw [vp_in_iff]
  unfold fX6_within at h
  by_cases h1 : v < 0
  · exact absurd (if_pos h1) h
  · rw [if_neg h1] at h
    by_cases h2 : k < v
    · exact absurd (if_pos h2) h
    · rw [Int32.lt_iff_toInt_lt] at h1 h2
      have h0 : (0 : Int32).toInt = 0 := by decide
      omega
theorem oh_none (v : Int32) : fX6_within v 0 ((0 : Int32) - 1) = 0 := by
  unfold fX6_within
  by_cases h1 : v < 0
  · rw [if_pos h1]
  · rw [if_neg h1]
    have h2 : (0 - 1 : Int32) < v := by
      rw [Int32.lt_iff_toInt_lt] at h1 ⊢
      have h0 : (0 : Int32).toInt = 0 := by decide
      have h3 : (0 - 1 : Int32).toInt = -1 := by decide
      omega
    rw [if_pos h2]
set_option maxHeartbeats 4000000 in
set_option maxRecDepth 100000 in
theorem c_X6_isPlace (l : Launch) (D : va_G) (E : Nat → ClassId) (G : Nat → Nat) (v_p : Int32) : Met l yX6_isPlace (oh_w yX6_isPlace cX6_isPlace 1 (some .boolean)) ({ frames := 1, cells := 0, slots := 0, locals := 22 }) (oh_Pp D E G [.int v_p] []) (vp_Si (fun r => r = fX6_within v_p 0 15)) 0 0 (fun _ => False) := by
  refine Met.ofW (cc := cX6_isPlace) (maxL := 1) (ret := (some .boolean)) (by decide) rfl ?_
  intro p e s m args below meth c s₁ B hml hv
  obtain ⟨rfl, hP, hK, hG⟩ := hv
  have hx := B.exec
  have hb := B.bytes
  have hr := B.returns
  have hts := atoms_spec (ws := (oh_w yX6_isPlace cX6_isPlace 1 (some .boolean))) B.pre
  have htg : ∀ w ∈ oh_t, w.before _ s = true := fun w h => hts w (List.mem_cons_of_mem _ h)
  have hown : s.vm.findClass RX6 = some m.cls := findClass_of_methodNamed B.named
  have hlocks := B.notSynchronized
  have hS : va_S (fun _ => False) s.heap s.heap [] := va_S.rf
  have hl := lv_entry ([.int v_p]) (n := 1) (Nat.le_of_ble_eq_true rfl)
  rw [lg_entry_eq]
  generalize (lg_sl ([.int v_p]) ++ List.replicate (1 - (lg_sl ([.int v_p])).length) Slot.unset).toArray = ls at hl ⊢
  have hl : lv_has ls 1 [(0, .int v_p)] := hl
  refine lv_iload_n hx hb dX6_isPlace_0 rfl (lv_at hl 0 rfl) ?_
  refine lv_iconst (v := 0) hx hb dX6_isPlace_1 (by decide) ?_
  refine lv_bipush (v := 15) hx hb dX6_isPlace_2 (by decide) ?_
  refine oh_pS (As := [.int v_p, .int 0, .int 15]) (rest := []) (v := fX6_within v_p 0 15) ⟨hx, hb, hml, hown, htg⟩ (c_X6_within l D E G v_p 0 15) (va_cwS 3 htg (oh_gS q_293 q_294 q_66 q_295) rfl rfl rfl pdX6_within ⟨Nat.le_of_ble_eq_true rfl, Nat.le_of_ble_eq_true rfl⟩) hK (hP.sub (ws' := []) [] rfl) hG hS rfl hl.1 rfl (Nat.le_of_ble_eq_true rfl) dX6_isPlace_4 ⟨Nat.le_of_ble_eq_true rfl, Nat.le_of_ble_eq_true rfl⟩ ?_
  exact W.zret (v := fX6_within v_p 0 15) (ty := .boolean) hx hb hr (oh_nb (fX6_within_b v_p 0 15)) (fun t ht hW => ⟨fX6_within v_p 0 15, rfl, rfl, ht⟩) (fun q h => by cases h) dX6_isPlace_7
set_option maxHeartbeats 4000000 in
set_option maxRecDepth 100000 in
theorem c_X6_isShelf (l : Launch) (D : va_G) (E : Nat → ClassId) (G : Nat → Nat) (v_s : Int32) : Met l yX6_isShelf (oh_w yX6_isShelf cX6_isShelf 1 (some .boolean)) ({ frames := 1, cells := 0, slots := 0, locals := 22 }) (oh_Pp D E G [.int v_s] []) (vp_Si (fun r => r = fX6_within v_s 0 7)) 0 0 (fun _ => False) := by
  refine Met.ofW (cc := cX6_isShelf) (maxL := 1) (ret := (some .boolean)) (by decide) rfl ?_
  intro p e s m args below meth c s₁ B hml hv
  obtain ⟨rfl, hP, hK, hG⟩ := hv
  have hx := B.exec
  have hb := B.bytes
  have hr := B.returns
  have hts := atoms_spec (ws := (oh_w yX6_isShelf cX6_isShelf 1 (some .boolean))) B.pre
  have htg : ∀ w ∈ oh_t, w.before _ s = true := fun w h => hts w (List.mem_cons_of_mem _ h)
  have hown : s.vm.findClass RX6 = some m.cls := findClass_of_methodNamed B.named
  have hlocks := B.notSynchronized
  have hS : va_S (fun _ => False) s.heap s.heap [] := va_S.rf
  have hl := lv_entry ([.int v_s]) (n := 1) (Nat.le_of_ble_eq_true rfl)
  rw [lg_entry_eq]
  generalize (lg_sl ([.int v_s]) ++ List.replicate (1 - (lg_sl ([.int v_s])).length) Slot.unset).toArray = ls at hl ⊢
  have hl : lv_has ls 1 [(0, .int v_s)] := hl
  refine lv_iload_n hx hb dX6_isShelf_0 rfl (lv_at hl 0 rfl) ?_
  refine lv_iconst (v := 0) hx hb dX6_isShelf_1 (by decide) ?_
  refine lv_bipush (v := 7) hx hb dX6_isShelf_2 (by decide) ?_
  refine oh_pS (As := [.int v_s, .int 0, .int 7]) (rest := []) (v := fX6_within v_s 0 7) ⟨hx, hb, hml, hown, htg⟩ (c_X6_within l D E G v_s 0 7) (va_cwS 3 htg (oh_gS q_293 q_294 q_66 q_295) rfl rfl rfl pdX6_within ⟨Nat.le_of_ble_eq_true rfl, Nat.le_of_ble_eq_true rfl⟩) hK (hP.sub (ws' := []) [] rfl) hG hS rfl hl.1 rfl (Nat.le_of_ble_eq_true rfl) dX6_isShelf_4 ⟨Nat.le_of_ble_eq_true rfl, Nat.le_of_ble_eq_true rfl⟩ ?_
  exact W.zret (v := fX6_within v_s 0 7) (ty := .boolean) hx hb hr (oh_nb (fX6_within_b v_s 0 7)) (fun t ht hW => ⟨fX6_within v_s 0 7, rfl, rfl, ht⟩) (fun q h => by cases h) dX6_isShelf_7
set_option maxHeartbeats 4000000 in
set_option maxRecDepth 100000 in
theorem c_X6_isRoad (l : Launch) (D : va_G) (E : Nat → ClassId) (G : Nat → Nat) (a0 : Nat) (v_r : Int32) (a0_now : Nat) (a0_kept : Nat) (a0_ways : Nat) (a0_shelves : Nat) (a0_tape : Nat) (a0_reader : Nat) (a0_refusals : Nat) (a0_bestPack : Nat) (a0_now_counts : Nat) (a0_now_roads : Nat) (a0_now_bridges : Nat) (a0_now_waggons : Nat) (a0_now_parts : Nat) (a0_now_settings : Nat) (a0_now_trip : Nat) : Met l yX6_isRoad (oh_w yX6_isRoad cX6_isRoad 2 (some .boolean)) ({ frames := 1, cells := 0, slots := 0, locals := 22 }) (oh_Pp D E G [.ref a0, .int v_r] [(a0, .inr (6, [.ref a0_now, .ref a0_kept, .int 0, .ref a0_ways, .ref a0_shelves, .ref a0_tape, .ref a0_reader, .ref a0_refusals, .ref a0_bestPack])), (a0_now, .inr (0, [.ref a0_now_counts, .ref a0_now_roads, .ref a0_now_bridges, .ref a0_now_waggons, .ref a0_now_parts, .ref a0_now_settings, .ref a0_now_trip, .int 0])), (a0_now_counts, .inl (E 0, 4, .inl (fun _ => 0)))]) (vp_Si (fun r => r = fX6_within v_r 0 (-1))) 0 0 (fun _ => False) := by
  refine Met.ofW (cc := cX6_isRoad) (maxL := 2) (ret := (some .boolean)) (by decide) rfl ?_
  intro p e s m args below meth c s₁ B hml hv
  obtain ⟨rfl, hP, hK, hG⟩ := hv
  have hx := B.exec
  have hb := B.bytes
  have hr := B.returns
  have hts := atoms_spec (ws := (oh_w yX6_isRoad cX6_isRoad 2 (some .boolean))) B.pre
  have htg : ∀ w ∈ oh_t, w.before _ s = true := fun w h => hts w (List.mem_cons_of_mem _ h)
  have hown : s.vm.findClass RX6 = some m.cls := findClass_of_methodNamed B.named
  have hlocks := B.notSynchronized
  have hS : va_S (fun _ => False) s.heap s.heap [] := va_S.rf
  have hl := lv_entry ([.ref a0, .int v_r]) (n := 2) (Nat.le_of_ble_eq_true rfl)
  rw [lg_entry_eq]
  generalize (lg_sl ([.ref a0, .int v_r]) ++ List.replicate (2 - (lg_sl ([.ref a0, .int v_r])).length) Slot.unset).toArray = ls at hl ⊢
  have hl : lv_has ls 2 [(0, .ref a0), (1, .int v_r)] := hl
  refine lv_iload_n hx hb dX6_isRoad_0 rfl (lv_at hl 1 rfl) ?_
  refine lv_iconst (v := 0) hx hb dX6_isRoad_1 (by decide) ?_
  refine lv_aload_n hx hb dX6_isRoad_2 rfl (lv_at hl 0 rfl) ?_
  refine va_get (D := D) (ci := 6) (v := .ref a0_now) (C := RX6) (T := TX6) (N := 9) hx hb htg ig_6 hown hK hP 0 rfl rfl 0 (by decide) (htg _ q_258) (fun _ h9 => h9) rfl dX6_isRoad_3 ?_
  refine va_get (D := D) (ci := 0) (v := .ref a0_now_counts) (C := RX0) (T := TX0) (N := 8) hx hb htg ig_0 hown hK hP 1 rfl rfl 0 (by decide) (htg _ q_100) (fun _ h9 => h9) rfl dX6_isRoad_6 ?_
  refine lv_iconst (v := 0) hx hb dX6_isRoad_9 (by decide) ?_
  refine va_iald hx hb hK hP 2 0 rfl rfl (show vp_in 0 4 by unfold vp_in; decide) dX6_isRoad_10 ?_
  refine oh_nrm (v := 0) (by decide) ?_
  refine lv_iconst (v := 1) hx hb dX6_isRoad_11 (by decide) ?_
  refine lv_isub hx hb dX6_isRoad_12 ?_
  refine oh_nrm (v := (-1)) (by decide) ?_
  refine oh_pS (As := [.int v_r, .int 0, .int (-1)]) (rest := []) (v := fX6_within v_r 0 (-1)) ⟨hx, hb, hml, hown, htg⟩ (c_X6_within l D E G v_r 0 (-1)) (va_cwS 3 htg (oh_gS q_293 q_294 q_66 q_295) rfl rfl rfl pdX6_within ⟨Nat.le_of_ble_eq_true rfl, Nat.le_of_ble_eq_true rfl⟩) hK (hP.sub (ws' := []) [] rfl) hG hS rfl hl.1 rfl (Nat.le_of_ble_eq_true rfl) dX6_isRoad_13 ⟨Nat.le_of_ble_eq_true rfl, Nat.le_of_ble_eq_true rfl⟩ ?_
  exact W.zret (v := fX6_within v_r 0 (-1)) (ty := .boolean) hx hb hr (oh_nb (fX6_within_b v_r 0 (-1))) (fun t ht hW => ⟨fX6_within v_r 0 (-1), rfl, rfl, ht⟩) (fun q h => by cases h) dX6_isRoad_16
theorem kk_X6_isRoad (v_r : Int32) : fX6_within v_r 0 (-1) = 0 := by
  exact oh_none v_r
theorem k_X6_isRoad (l : Launch) (D : va_G) (E : Nat → ClassId) (G : Nat → Nat) (a0 : Nat) (v_r : Int32) (a0_now : Nat) (a0_kept : Nat) (a0_ways : Nat) (a0_shelves : Nat) (a0_tape : Nat) (a0_reader : Nat) (a0_refusals : Nat) (a0_bestPack : Nat) (a0_now_counts : Nat) (a0_now_roads : Nat) (a0_now_bridges : Nat) (a0_now_waggons : Nat) (a0_now_parts : Nat) (a0_now_settings : Nat) (a0_now_trip : Nat) : Met l yX6_isRoad (oh_w yX6_isRoad cX6_isRoad 2 (some .boolean)) ({ frames := 1, cells := 0, slots := 0, locals := 22 }) (oh_Pp D E G [.ref a0, .int v_r] [(a0, .inr (6, [.ref a0_now, .ref a0_kept, .int 0, .ref a0_ways, .ref a0_shelves, .ref a0_tape, .ref a0_reader, .ref a0_refusals, .ref a0_bestPack])), (a0_now, .inr (0, [.ref a0_now_counts, .ref a0_now_roads, .ref a0_now_bridges, .ref a0_now_waggons, .ref a0_now_parts, .ref a0_now_settings, .ref a0_now_trip, .int 0])), (a0_now_counts, .inl (E 0, 4, .inl (fun _ => 0)))]) (vp_Si (fun r => r = 0)) 0 0 (fun _ => False) := by
  have h := c_X6_isRoad l D E G a0 v_r a0_now a0_kept a0_ways a0_shelves a0_tape a0_reader a0_refusals a0_bestPack a0_now_counts a0_now_roads a0_now_bridges a0_now_waggons a0_now_parts a0_now_settings a0_now_trip
  rw [kk_X6_isRoad] at h
  exact h
set_option maxHeartbeats 4000000 in
set_option maxRecDepth 100000 in
theorem c_X6_isBridge (l : Launch) (D : va_G) (E : Nat → ClassId) (G : Nat → Nat) (a0 : Nat) (v_r : Int32) (a0_now : Nat) (a0_kept : Nat) (a0_ways : Nat) (a0_shelves : Nat) (a0_tape : Nat) (a0_reader : Nat) (a0_refusals : Nat) (a0_bestPack : Nat) (a0_now_counts : Nat) (a0_now_roads : Nat) (a0_now_bridges : Nat) (a0_now_waggons : Nat) (a0_now_parts : Nat) (a0_now_settings : Nat) (a0_now_trip : Nat) : Met l yX6_isBridge (oh_w yX6_isBridge cX6_isBridge 2 (some .boolean)) ({ frames := 1, cells := 0, slots := 0, locals := 22 }) (oh_Pp D E G [.ref a0, .int v_r] [(a0, .inr (6, [.ref a0_now, .ref a0_kept, .int 0, .ref a0_ways, .ref a0_shelves, .ref a0_tape, .ref a0_reader, .ref a0_refusals, .ref a0_bestPack])), (a0_now, .inr (0, [.ref a0_now_counts, .ref a0_now_roads, .ref a0_now_bridges, .ref a0_now_waggons, .ref a0_now_parts, .ref a0_now_settings, .ref a0_now_trip, .int 0])), (a0_now_counts, .inl (E 0, 4, .inl (fun _ => 0)))]) (vp_Si (fun r => r = fX6_within v_r 0 (-1))) 0 0 (fun _ => False) := by
  refine Met.ofW (cc := cX6_isBridge) (maxL := 2) (ret := (some .boolean)) (by decide) rfl ?_
  intro p e s m args below meth c s₁ B hml hv
  obtain ⟨rfl, hP, hK, hG⟩ := hv
  have hx := B.exec
  have hb := B.bytes
  have hr := B.returns
  have hts := atoms_spec (ws := (oh_w yX6_isBridge cX6_isBridge 2 (some .boolean))) B.pre
  have htg : ∀ w ∈ oh_t, w.before _ s = true := fun w h => hts w (List.mem_cons_of_mem _ h)
  have hown : s.vm.findClass RX6 = some m.cls := findClass_of_methodNamed B.named
  have hlocks := B.notSynchronized
  have hS : va_S (fun _ => False) s.heap s.heap [] := va_S.rf
  have hl := lv_entry ([.ref a0, .int v_r]) (n := 2) (Nat.le_of_ble_eq_true rfl)
  rw [lg_entry_eq]
  generalize (lg_sl ([.ref a0, .int v_r]) ++ List.replicate (2 - (lg_sl ([.ref a0, .int v_r])).length) Slot.unset).toArray = ls at hl ⊢
  have hl : lv_has ls 2 [(0, .ref a0), (1, .int v_r)] := hl
  refine lv_iload_n hx hb dX6_isBridge_0 rfl (lv_at hl 1 rfl) ?_
  refine lv_iconst (v := 0) hx hb dX6_isBridge_1 (by decide) ?_
  refine lv_aload_n hx hb dX6_isBridge_2 rfl (lv_at hl 0 rfl) ?_
  refine va_get (D := D) (ci := 6) (v := .ref a0_now) (C := RX6) (T := TX6) (N := 9) hx hb htg ig_6 hown hK hP 0 rfl rfl 0 (by decide) (htg _ q_258) (fun _ h9 => h9) rfl dX6_isBridge_3 ?_
  refine va_get (D := D) (ci := 0) (v := .ref a0_now_counts) (C := RX0) (T := TX0) (N := 8) hx hb htg ig_0 hown hK hP 1 rfl rfl 0 (by decide) (htg _ q_100) (fun _ h9 => h9) rfl dX6_isBridge_6 ?_
  refine lv_iconst (v := 1) hx hb dX6_isBridge_9 (by decide) ?_
  refine va_iald hx hb hK hP 2 0 rfl rfl (show vp_in 1 4 by unfold vp_in; decide) dX6_isBridge_10 ?_
  refine oh_nrm (v := 0) (by decide) ?_
  refine lv_iconst (v := 1) hx hb dX6_isBridge_11 (by decide) ?_
  refine lv_isub hx hb dX6_isBridge_12 ?_
  refine oh_nrm (v := (-1)) (by decide) ?_
  refine oh_pS (As := [.int v_r, .int 0, .int (-1)]) (rest := []) (v := fX6_within v_r 0 (-1)) ⟨hx, hb, hml, hown, htg⟩ (c_X6_within l D E G v_r 0 (-1)) (va_cwS 3 htg (oh_gS q_293 q_294 q_66 q_295) rfl rfl rfl pdX6_within ⟨Nat.le_of_ble_eq_true rfl, Nat.le_of_ble_eq_true rfl⟩) hK (hP.sub (ws' := []) [] rfl) hG hS rfl hl.1 rfl (Nat.le_of_ble_eq_true rfl) dX6_isBridge_13 ⟨Nat.le_of_ble_eq_true rfl, Nat.le_of_ble_eq_true rfl⟩ ?_
  exact W.zret (v := fX6_within v_r 0 (-1)) (ty := .boolean) hx hb hr (oh_nb (fX6_within_b v_r 0 (-1))) (fun t ht hW => ⟨fX6_within v_r 0 (-1), rfl, rfl, ht⟩) (fun q h => by cases h) dX6_isBridge_16
theorem kk_X6_isBridge (v_r : Int32) : fX6_within v_r 0 (-1) = 0 := by
  exact oh_none v_r
theorem k_X6_isBridge (l : Launch) (D : va_G) (E : Nat → ClassId) (G : Nat → Nat) (a0 : Nat) (v_r : Int32) (a0_now : Nat) (a0_kept : Nat) (a0_ways : Nat) (a0_shelves : Nat) (a0_tape : Nat) (a0_reader : Nat) (a0_refusals : Nat) (a0_bestPack : Nat) (a0_now_counts : Nat) (a0_now_roads : Nat) (a0_now_bridges : Nat) (a0_now_waggons : Nat) (a0_now_parts : Nat) (a0_now_settings : Nat) (a0_now_trip : Nat) : Met l yX6_isBridge (oh_w yX6_isBridge cX6_isBridge 2 (some .boolean)) ({ frames := 1, cells := 0, slots := 0, locals := 22 }) (oh_Pp D E G [.ref a0, .int v_r] [(a0, .inr (6, [.ref a0_now, .ref a0_kept, .int 0, .ref a0_ways, .ref a0_shelves, .ref a0_tape, .ref a0_reader, .ref a0_refusals, .ref a0_bestPack])), (a0_now, .inr (0, [.ref a0_now_counts, .ref a0_now_roads, .ref a0_now_bridges, .ref a0_now_waggons, .ref a0_now_parts, .ref a0_now_settings, .ref a0_now_trip, .int 0])), (a0_now_counts, .inl (E 0, 4, .inl (fun _ => 0)))]) (vp_Si (fun r => r = 0)) 0 0 (fun _ => False) := by
  have h := c_X6_isBridge l D E G a0 v_r a0_now a0_kept a0_ways a0_shelves a0_tape a0_reader a0_refusals a0_bestPack a0_now_counts a0_now_roads a0_now_bridges a0_now_waggons a0_now_parts a0_now_settings a0_now_trip
  rw [kk_X6_isBridge] at h
  exact h
set_option maxHeartbeats 4000000 in
set_option maxRecDepth 100000 in
theorem c_X6_isWaggon (l : Launch) (D : va_G) (E : Nat → ClassId) (G : Nat → Nat) (a0 : Nat) (v_r : Int32) (a0_now : Nat) (a0_kept : Nat) (a0_ways : Nat) (a0_shelves : Nat) (a0_tape : Nat) (a0_reader : Nat) (a0_refusals : Nat) (a0_bestPack : Nat) (a0_now_counts : Nat) (a0_now_roads : Nat) (a0_now_bridges : Nat) (a0_now_waggons : Nat) (a0_now_parts : Nat) (a0_now_settings : Nat) (a0_now_trip : Nat) : Met l yX6_isWaggon (oh_w yX6_isWaggon cX6_isWaggon 2 (some .boolean)) ({ frames := 1, cells := 0, slots := 0, locals := 22 }) (oh_Pp D E G [.ref a0, .int v_r] [(a0, .inr (6, [.ref a0_now, .ref a0_kept, .int 0, .ref a0_ways, .ref a0_shelves, .ref a0_tape, .ref a0_reader, .ref a0_refusals, .ref a0_bestPack])), (a0_now, .inr (0, [.ref a0_now_counts, .ref a0_now_roads, .ref a0_now_bridges, .ref a0_now_waggons, .ref a0_now_parts, .ref a0_now_settings, .ref a0_now_trip, .int 0])), (a0_now_counts, .inl (E 0, 4, .inl (fun _ => 0)))]) (vp_Si (fun r => r = fX6_within v_r 0 (-1))) 0 0 (fun _ => False) := by
  refine Met.ofW (cc := cX6_isWaggon) (maxL := 2) (ret := (some .boolean)) (by decide) rfl ?_
  intro p e s m args below meth c s₁ B hml hv
  obtain ⟨rfl, hP, hK, hG⟩ := hv
  have hx := B.exec
  have hb := B.bytes
  have hr := B.returns
  have hts := atoms_spec (ws := (oh_w yX6_isWaggon cX6_isWaggon 2 (some .boolean))) B.pre
  have htg : ∀ w ∈ oh_t, w.before _ s = true := fun w h => hts w (List.mem_cons_of_mem _ h)
  have hown : s.vm.findClass RX6 = some m.cls := findClass_of_methodNamed B.named
  have hlocks := B.notSynchronized
  have hS : va_S (fun _ => False) s.heap s.heap [] := va_S.rf
  have hl := lv_entry ([.ref a0, .int v_r]) (n := 2) (Nat.le_of_ble_eq_true rfl)
  rw [lg_entry_eq]
  generalize (lg_sl ([.ref a0, .int v_r]) ++ List.replicate (2 - (lg_sl ([.ref a0, .int v_r])).length) Slot.unset).toArray = ls at hl ⊢
  have hl : lv_has ls 2 [(0, .ref a0), (1, .int v_r)] := hl
  refine lv_iload_n hx hb dX6_isWaggon_0 rfl (lv_at hl 1 rfl) ?_
  refine lv_iconst (v := 0) hx hb dX6_isWaggon_1 (by decide) ?_
  refine lv_aload_n hx hb dX6_isWaggon_2 rfl (lv_at hl 0 rfl) ?_
  refine va_get (D := D) (ci := 6) (v := .ref a0_now) (C := RX6) (T := TX6) (N := 9) hx hb htg ig_6 hown hK hP 0 rfl rfl 0 (by decide) (htg _ q_258) (fun _ h9 => h9) rfl dX6_isWaggon_3 ?_
  refine va_get (D := D) (ci := 0) (v := .ref a0_now_counts) (C := RX0) (T := TX0) (N := 8) hx hb htg ig_0 hown hK hP 1 rfl rfl 0 (by decide) (htg _ q_100) (fun _ h9 => h9) rfl dX6_isWaggon_6 ?_
  refine lv_iconst (v := 2) hx hb dX6_isWaggon_9 (by decide) ?_
  refine va_iald hx hb hK hP 2 0 rfl rfl (show vp_in 2 4 by unfold vp_in; decide) dX6_isWaggon_10 ?_
  refine oh_nrm (v := 0) (by decide) ?_
  refine lv_iconst (v := 1) hx hb dX6_isWaggon_11 (by decide) ?_
  refine lv_isub hx hb dX6_isWaggon_12 ?_
  refine oh_nrm (v := (-1)) (by decide) ?_
  refine oh_pS (As := [.int v_r, .int 0, .int (-1)]) (rest := []) (v := fX6_within v_r 0 (-1)) ⟨hx, hb, hml, hown, htg⟩ (c_X6_within l D E G v_r 0 (-1)) (va_cwS 3 htg (oh_gS q_293 q_294 q_66 q_295) rfl rfl rfl pdX6_within ⟨Nat.le_of_ble_eq_true rfl, Nat.le_of_ble_eq_true rfl⟩) hK (hP.sub (ws' := []) [] rfl) hG hS rfl hl.1 rfl (Nat.le_of_ble_eq_true rfl) dX6_isWaggon_13 ⟨Nat.le_of_ble_eq_true rfl, Nat.le_of_ble_eq_true rfl⟩ ?_
  exact W.zret (v := fX6_within v_r 0 (-1)) (ty := .boolean) hx hb hr (oh_nb (fX6_within_b v_r 0 (-1))) (fun t ht hW => ⟨fX6_within v_r 0 (-1), rfl, rfl, ht⟩) (fun q h => by cases h) dX6_isWaggon_16
theorem kk_X6_isWaggon (v_r : Int32) : fX6_within v_r 0 (-1) = 0 := by
  exact oh_none v_r
theorem k_X6_isWaggon (l : Launch) (D : va_G) (E : Nat → ClassId) (G : Nat → Nat) (a0 : Nat) (v_r : Int32) (a0_now : Nat) (a0_kept : Nat) (a0_ways : Nat) (a0_shelves : Nat) (a0_tape : Nat) (a0_reader : Nat) (a0_refusals : Nat) (a0_bestPack : Nat) (a0_now_counts : Nat) (a0_now_roads : Nat) (a0_now_bridges : Nat) (a0_now_waggons : Nat) (a0_now_parts : Nat) (a0_now_settings : Nat) (a0_now_trip : Nat) : Met l yX6_isWaggon (oh_w yX6_isWaggon cX6_isWaggon 2 (some .boolean)) ({ frames := 1, cells := 0, slots := 0, locals := 22 }) (oh_Pp D E G [.ref a0, .int v_r] [(a0, .inr (6, [.ref a0_now, .ref a0_kept, .int 0, .ref a0_ways, .ref a0_shelves, .ref a0_tape, .ref a0_reader, .ref a0_refusals, .ref a0_bestPack])), (a0_now, .inr (0, [.ref a0_now_counts, .ref a0_now_roads, .ref a0_now_bridges, .ref a0_now_waggons, .ref a0_now_parts, .ref a0_now_settings, .ref a0_now_trip, .int 0])), (a0_now_counts, .inl (E 0, 4, .inl (fun _ => 0)))]) (vp_Si (fun r => r = 0)) 0 0 (fun _ => False) := by
  have h := c_X6_isWaggon l D E G a0 v_r a0_now a0_kept a0_ways a0_shelves a0_tape a0_reader a0_refusals a0_bestPack a0_now_counts a0_now_roads a0_now_bridges a0_now_waggons a0_now_parts a0_now_settings a0_now_trip
  rw [kk_X6_isWaggon] at h
  exact h
set_option maxHeartbeats 4000000 in
set_option maxRecDepth 100000 in
theorem c_X0_setsOfParts (l : Launch) (D : va_G) (E : Nat → ClassId) (G : Nat → Nat) (a0 : Nat) (a0_counts : Nat) (a0_roads : Nat) (a0_bridges : Nat) (a0_waggons : Nat) (a0_parts : Nat) (a0_settings : Nat) (a0_trip : Nat) : Met l yX0_setsOfParts (oh_w yX0_setsOfParts cX0_setsOfParts 1 (some .int)) ({ frames := 0, cells := 0, slots := 0, locals := 0 }) (oh_Pp D E G [.ref a0] [(a0, .inr (0, [.ref a0_counts, .ref a0_roads, .ref a0_bridges, .ref a0_waggons, .ref a0_parts, .ref a0_settings, .ref a0_trip, .int 0])), (a0_counts, .inl (E 0, 4, .inl (fun _ => 0)))]) (vp_Si (fun r => r = 1)) 0 0 (fun _ => False) := by
  refine Met.ofW (cc := cX0_setsOfParts) (maxL := 1) (ret := (some .int)) (by decide) rfl ?_
  intro p e s m args below meth c s₁ B hml hv
  obtain ⟨rfl, hP, hK, hG⟩ := hv
  have hx := B.exec
  have hb := B.bytes
  have hr := B.returns
  have hts := atoms_spec (ws := (oh_w yX0_setsOfParts cX0_setsOfParts 1 (some .int))) B.pre
  have htg : ∀ w ∈ oh_t, w.before _ s = true := fun w h => hts w (List.mem_cons_of_mem _ h)
  have hown : s.vm.findClass RX0 = some m.cls := findClass_of_methodNamed B.named
  have hlocks := B.notSynchronized
  have hS : va_S (fun _ => False) s.heap s.heap [] := va_S.rf
  have hl := lv_entry ([.ref a0]) (n := 1) (Nat.le_of_ble_eq_true rfl)
  rw [lg_entry_eq]
  generalize (lg_sl ([.ref a0]) ++ List.replicate (1 - (lg_sl ([.ref a0])).length) Slot.unset).toArray = ls at hl ⊢
  have hl : lv_has ls 1 [(0, .ref a0)] := hl
  refine lv_iconst (v := 1) hx hb dX0_setsOfParts_0 (by decide) ?_
  refine lv_aload_n hx hb dX0_setsOfParts_1 rfl (lv_at hl 0 rfl) ?_
  refine va_get (D := D) (ci := 0) (v := .ref a0_counts) (C := RX0) (T := TX0) (N := 8) hx hb htg ig_0 hown hK hP 0 rfl rfl 0 (by decide) (htg _ q_97) (fun _ h9 => h9) rfl dX0_setsOfParts_2 ?_
  refine lv_iconst (v := 3) hx hb dX0_setsOfParts_5 (by decide) ?_
  refine va_iald hx hb hK hP 1 0 rfl rfl (show vp_in 3 4 by unfold vp_in; decide) dX0_setsOfParts_6 ?_
  refine oh_nrm (v := 0) (by decide) ?_
  refine lv_ishl hx hb dX0_setsOfParts_7 ?_
  refine oh_nrm (v := 1) (by decide) ?_
  exact W.iret (v := 1) hx hb hr (fun t ht hW => ⟨1, rfl, rfl, ht⟩) (fun q h => by cases h) dX0_setsOfParts_8
set_option maxHeartbeats 4000000 in
set_option maxRecDepth 100000 in
theorem c_X6_isPack (l : Launch) (D : va_G) (E : Nat → ClassId) (G : Nat → Nat) (a0 : Nat) (v_w : Int32) (v_k : Int32) (a0_now : Nat) (a0_kept : Nat) (a0_ways : Nat) (a0_shelves : Nat) (a0_tape : Nat) (a0_reader : Nat) (a0_refusals : Nat) (a0_bestPack : Nat) (a0_now_counts : Nat) (a0_now_roads : Nat) (a0_now_bridges : Nat) (a0_now_waggons : Nat) (a0_now_parts : Nat) (a0_now_settings : Nat) (a0_now_trip : Nat) : Met l yX6_isPack (oh_w yX6_isPack cX6_isPack 3 (some .boolean)) ({ frames := 2, cells := 0, slots := 0, locals := 43 }) (oh_Pp D E G [.ref a0, .int v_w, .int v_k] [(a0, .inr (6, [.ref a0_now, .ref a0_kept, .int 0, .ref a0_ways, .ref a0_shelves, .ref a0_tape, .ref a0_reader, .ref a0_refusals, .ref a0_bestPack])), (a0_now, .inr (0, [.ref a0_now_counts, .ref a0_now_roads, .ref a0_now_bridges, .ref a0_now_waggons, .ref a0_now_parts, .ref a0_now_settings, .ref a0_now_trip, .int 0])), (a0_now_counts, .inl (E 0, 4, .inl (fun _ => 0)))]) (vp_Si (fun r => r = 0)) 0 0 (fun _ => False) := by
  refine Met.ofW (cc := cX6_isPack) (maxL := 3) (ret := (some .boolean)) (by decide) rfl ?_
  intro p e s m args below meth c s₁ B hml hv
  obtain ⟨rfl, hP, hK, hG⟩ := hv
  have hx := B.exec
  have hb := B.bytes
  have hr := B.returns
  have hts := atoms_spec (ws := (oh_w yX6_isPack cX6_isPack 3 (some .boolean))) B.pre
  have htg : ∀ w ∈ oh_t, w.before _ s = true := fun w h => hts w (List.mem_cons_of_mem _ h)
  have hown : s.vm.findClass RX6 = some m.cls := findClass_of_methodNamed B.named
  have hlocks := B.notSynchronized
  have hS : va_S (fun _ => False) s.heap s.heap [] := va_S.rf
  have hl := lv_entry ([.ref a0, .int v_w, .int v_k]) (n := 3) (Nat.le_of_ble_eq_true rfl)
  rw [lg_entry_eq]
  generalize (lg_sl ([.ref a0, .int v_w, .int v_k]) ++ List.replicate (3 - (lg_sl ([.ref a0, .int v_w, .int v_k])).length) Slot.unset).toArray = ls at hl ⊢
  have hl : lv_has ls 3 [(0, .ref a0), (1, .int v_w), (2, .int v_k)] := hl
  refine lv_aload_n hx hb dX6_isPack_0 rfl (lv_at hl 0 rfl) ?_
  refine lv_iload_n hx hb dX6_isPack_1 rfl (lv_at hl 1 rfl) ?_
  refine oh_pV (As := [.int v_w]) (rest := []) (v := 0) ⟨hx, hb, hml, hown, htg⟩ (k_X6_isWaggon l D E G a0 v_w a0_now a0_kept a0_ways a0_shelves a0_tape a0_reader a0_refusals a0_bestPack a0_now_counts a0_now_roads a0_now_bridges a0_now_waggons a0_now_parts a0_now_settings a0_now_trip) (cwV 1 htg (oh_gV q_679 q_681 q_15 q_66 q_682) rfl rfl rfl pdVX6_isWaggon ⟨Nat.le_of_ble_eq_true rfl, Nat.le_of_ble_eq_true rfl⟩) hK (hP.sub (ws' := [(a0, .inr (6, [.ref a0_now, .ref a0_kept, .int 0, .ref a0_ways, .ref a0_shelves, .ref a0_tape, .ref a0_reader, .ref a0_refusals, .ref a0_bestPack])), (a0_now, .inr (0, [.ref a0_now_counts, .ref a0_now_roads, .ref a0_now_bridges, .ref a0_now_waggons, .ref a0_now_parts, .ref a0_now_settings, .ref a0_now_trip, .int 0])), (a0_now_counts, .inl (E 0, 4, .inl (fun _ => 0)))]) [0, 1, 2] rfl) hG hS (va_recv hK hP (ci := 6) (q0 := 0) rfl rfl) rfl hl.1 rfl (Nat.le_of_ble_eq_true rfl) dX6_isPack_2 ⟨Nat.le_of_ble_eq_true rfl, Nat.le_of_ble_eq_true rfl⟩ ?_
  refine lv_if_eq (tgt := 29) hx hb dX6_isPack_5 (by decide) (fun _ => ?_) (fun c => absurd (show (0 : Int32) = 0 from by decide) c)
  refine lv_iconst (v := 0) hx hb dX6_isPack_29 (by decide) ?_
  exact W.zret (v := 0) (ty := .boolean) hx hb hr (by decide) (fun t ht hW => ⟨0, rfl, rfl, ht⟩) (fun q h => by cases h) dX6_isPack_30
set_option maxHeartbeats 4000000 in
set_option maxRecDepth 100000 in
theorem c_X6_isJourney (l : Launch) (D : va_G) (E : Nat → ClassId) (G : Nat → Nat) (a0 : Nat) (v_w : Int32) (v_k : Int32) (v_f : Int32) (v_t : Int32) (a0_now : Nat) (a0_kept : Nat) (a0_ways : Nat) (a0_shelves : Nat) (a0_tape : Nat) (a0_reader : Nat) (a0_refusals : Nat) (a0_bestPack : Nat) (a0_now_counts : Nat) (a0_now_roads : Nat) (a0_now_bridges : Nat) (a0_now_waggons : Nat) (a0_now_parts : Nat) (a0_now_settings : Nat) (a0_now_trip : Nat) : Met l yX6_isJourney (oh_w yX6_isJourney cX6_isJourney 5 (some .boolean)) ({ frames := 3, cells := 0, slots := 0, locals := 65 }) (oh_Pp D E G [.ref a0, .int v_w, .int v_k, .int v_f, .int v_t] [(a0, .inr (6, [.ref a0_now, .ref a0_kept, .int 0, .ref a0_ways, .ref a0_shelves, .ref a0_tape, .ref a0_reader, .ref a0_refusals, .ref a0_bestPack])), (a0_now, .inr (0, [.ref a0_now_counts, .ref a0_now_roads, .ref a0_now_bridges, .ref a0_now_waggons, .ref a0_now_parts, .ref a0_now_settings, .ref a0_now_trip, .int 0])), (a0_now_counts, .inl (E 0, 4, .inl (fun _ => 0)))]) (vp_Si (fun r => r = 0)) 0 0 (fun _ => False) := by
  refine Met.ofW (cc := cX6_isJourney) (maxL := 5) (ret := (some .boolean)) (by decide) rfl ?_
  intro p e s m args below meth c s₁ B hml hv
  obtain ⟨rfl, hP, hK, hG⟩ := hv
  have hx := B.exec
  have hb := B.bytes
  have hr := B.returns
  have hts := atoms_spec (ws := (oh_w yX6_isJourney cX6_isJourney 5 (some .boolean))) B.pre
  have htg : ∀ w ∈ oh_t, w.before _ s = true := fun w h => hts w (List.mem_cons_of_mem _ h)
  have hown : s.vm.findClass RX6 = some m.cls := findClass_of_methodNamed B.named
  have hlocks := B.notSynchronized
  have hS : va_S (fun _ => False) s.heap s.heap [] := va_S.rf
  have hl := lv_entry ([.ref a0, .int v_w, .int v_k, .int v_f, .int v_t]) (n := 5) (Nat.le_of_ble_eq_true rfl)
  rw [lg_entry_eq]
  generalize (lg_sl ([.ref a0, .int v_w, .int v_k, .int v_f, .int v_t]) ++ List.replicate (5 - (lg_sl ([.ref a0, .int v_w, .int v_k, .int v_f, .int v_t])).length) Slot.unset).toArray = ls at hl ⊢
  have hl : lv_has ls 5 [(0, .ref a0), (1, .int v_w), (2, .int v_k), (3, .int v_f), (4, .int v_t)] := hl
  refine lv_aload_n hx hb dX6_isJourney_0 rfl (lv_at hl 0 rfl) ?_
  refine lv_iload_n hx hb dX6_isJourney_1 rfl (lv_at hl 1 rfl) ?_
  refine lv_iload_n hx hb dX6_isJourney_2 rfl (lv_at hl 2 rfl) ?_
  refine oh_pV (As := [.int v_w, .int v_k]) (rest := []) (v := 0) ⟨hx, hb, hml, hown, htg⟩ (c_X6_isPack l D E G a0 v_w v_k a0_now a0_kept a0_ways a0_shelves a0_tape a0_reader a0_refusals a0_bestPack a0_now_counts a0_now_roads a0_now_bridges a0_now_waggons a0_now_parts a0_now_settings a0_now_trip) (cwV 2 htg (oh_gV q_695 q_697 q_16 q_66 q_698) rfl rfl rfl pdVX6_isPack ⟨Nat.le_of_ble_eq_true rfl, Nat.le_of_ble_eq_true rfl⟩) hK (hP.sub (ws' := [(a0, .inr (6, [.ref a0_now, .ref a0_kept, .int 0, .ref a0_ways, .ref a0_shelves, .ref a0_tape, .ref a0_reader, .ref a0_refusals, .ref a0_bestPack])), (a0_now, .inr (0, [.ref a0_now_counts, .ref a0_now_roads, .ref a0_now_bridges, .ref a0_now_waggons, .ref a0_now_parts, .ref a0_now_settings, .ref a0_now_trip, .int 0])), (a0_now_counts, .inl (E 0, 4, .inl (fun _ => 0)))]) [0, 1, 2] rfl) hG hS (va_recv hK hP (ci := 6) (q0 := 0) rfl rfl) rfl hl.1 rfl (Nat.le_of_ble_eq_true rfl) dX6_isJourney_3 ⟨Nat.le_of_ble_eq_true rfl, Nat.le_of_ble_eq_true rfl⟩ ?_
  refine lv_if_eq (tgt := 28) hx hb dX6_isJourney_6 (by decide) (fun _ => ?_) (fun c => absurd (show (0 : Int32) = 0 from by decide) c)
  refine lv_iconst (v := 0) hx hb dX6_isJourney_28 (by decide) ?_
  exact W.zret (v := 0) (ty := .boolean) hx hb hr (by decide) (fun t ht hW => ⟨0, rfl, rfl, ht⟩) (fun q h => by cases h) dX6_isJourney_29
set_option maxHeartbeats 4000000 in
set_option maxRecDepth 100000 in
theorem c_X6_refuse (l : Launch) (D : va_G) (E : Nat → ClassId) (G : Nat → Nat) (sz : Nat) (a0 : Nat) (v_n : Int32) (a0_now : Nat) (a0_kept : Nat) (a0_ways : Nat) (a0_shelves : Nat) (a0_tape : Nat) (a0_reader : Nat) (a0_refusals : Nat) (a0_bestPack : Nat) : Met l yX6_refuse (oh_w yX6_refuse cX6_refuse 3 (some .int)) ({ frames := 1, cells := 0, slots := 0, locals := 22 }) (oh_Pm D E G [.ref a0, .int v_n] [(a0, .inr (6, [.ref a0_now, .ref a0_kept, .int 0, .ref a0_ways, .ref a0_shelves, .ref a0_tape, .ref a0_reader, .ref a0_refusals, .ref a0_bestPack])), (a0_refusals, .inl (E 0, 5, .inl (fun _ => 0)))] sz) (va_Qi (fun r (_ : Unit) => r = v_n) (oh_B D (va_A [(a0, .inr (6, [.ref a0_now, .ref a0_kept, .int 0, .ref a0_ways, .ref a0_shelves, .ref a0_tape, .ref a0_reader, .ref a0_refusals, .ref a0_bestPack])), (a0_refusals, .inl (E 0, 5, .inl (fun _ => 0)))] sz) (fun _ => [(a0, .inr (6, [.ref a0_now, .ref a0_kept, .int 0, .ref a0_ways, .ref a0_shelves, .ref a0_tape, .ref a0_reader, .ref a0_refusals, .ref a0_bestPack]))])) (va_A [(a0, .inr (6, [.ref a0_now, .ref a0_kept, .int 0, .ref a0_ways, .ref a0_shelves, .ref a0_tape, .ref a0_reader, .ref a0_refusals, .ref a0_bestPack])), (a0_refusals, .inl (E 0, 5, .inl (fun _ => 0)))] sz)) 0 0 (va_A [(a0, .inr (6, [.ref a0_now, .ref a0_kept, .int 0, .ref a0_ways, .ref a0_shelves, .ref a0_tape, .ref a0_reader, .ref a0_refusals, .ref a0_bestPack])), (a0_refusals, .inl (E 0, 5, .inl (fun _ => 0)))] sz) := by
  refine Met.ofW (cc := cX6_refuse) (maxL := 3) (ret := (some .int)) (by decide) rfl ?_
  intro p e s m args below meth c s₁ B hml hv
  obtain ⟨rfl, hsz, hP, hK, hD0, hG⟩ := hv
  have hx := B.exec
  have hb := B.bytes
  have hr := B.returns
  have hts := atoms_spec (ws := (oh_w yX6_refuse cX6_refuse 3 (some .int))) B.pre
  have htg : ∀ w ∈ oh_t, w.before _ s = true := fun w h => hts w (List.mem_cons_of_mem _ h)
  have hown : s.vm.findClass RX6 = some m.cls := findClass_of_methodNamed B.named
  have hlocks := B.notSynchronized
  subst hsz
  have hD := hD0.self (sz := s.heap.size)
  generalize hAe : va_A [(a0, .inr (6, [.ref a0_now, .ref a0_kept, .int 0, .ref a0_ways, .ref a0_shelves, .ref a0_tape, .ref a0_reader, .ref a0_refusals, .ref a0_bestPack])), (a0_refusals, .inl (E 0, 5, .inl (fun _ => 0)))] s.heap.size = A at hD hG ⊢
  have hA : ∀ q : Nat, s.heap.size ≤ q → A q := fun q h => by rw [← hAe]; exact Or.inr h
  have hS : va_S A s.heap s.heap [] := va_S.rf
  have hP : va_P D vwCl [(a0, .inr (6, [.ref a0_now, .ref a0_kept, .int 0, .ref a0_ways, .ref a0_shelves, .ref a0_tape, .ref a0_reader, .ref a0_refusals, .ref a0_bestPack])), (a0_refusals, .inl (E 0, 5, .inl (fun _ => 0)))] s.heap := hP
  have hl := lv_entry ([.ref a0, .int v_n]) (n := 3) (Nat.le_of_ble_eq_true rfl)
  rw [lg_entry_eq]
  generalize (lg_sl ([.ref a0, .int v_n]) ++ List.replicate (3 - (lg_sl ([.ref a0, .int v_n])).length) Slot.unset).toArray = ls at hl ⊢
  have hl : lv_has ls 3 [(0, .ref a0), (1, .int v_n)] := hl
  refine lv_bipush (v := (-2)) hx hb dX6_refuse_0 (by decide) ?_
  refine lv_iload_n hx hb dX6_refuse_2 rfl (lv_at hl 1 rfl) ?_
  refine lv_isub hx hb dX6_refuse_3 ?_
  refine lv_istore_n (lv' := [(2, .int ((-2) - v_n)), (0, .ref a0), (1, .int v_n)]) hx hb dX6_refuse_4 rfl hl (by decide) rfl (fun ls hl => ?_)
  refine lv_iload_n hx hb dX6_refuse_5 rfl (lv_at hl 0 rfl) ?_
  refine lv_iconst (v := 0) hx hb dX6_refuse_6 (by decide) ?_
  refine lv_iconst (v := 4) hx hb dX6_refuse_7 (by decide) ?_
  refine oh_pS (As := [.int ((-2) - v_n), .int 0, .int 4]) (rest := []) (v := fX6_within ((-2) - v_n) 0 4) ⟨hx, hb, hml, hown, htg⟩ (c_X6_within l D E G ((-2) - v_n) 0 4) (va_cwS 3 htg (oh_gS q_293 q_294 q_66 q_295) rfl rfl rfl pdX6_within ⟨Nat.le_of_ble_eq_true rfl, Nat.le_of_ble_eq_true rfl⟩) hK (hP.sub (ws' := []) [] rfl) hG hS rfl hl.1 rfl (Nat.le_of_ble_eq_true rfl) dX6_refuse_8 ⟨Nat.le_of_ble_eq_true rfl, Nat.le_of_ble_eq_true rfl⟩ ?_
  refine lv_if_eq (tgt := 24) hx hb dX6_refuse_11 (by decide) (fun (c_1 : (fX6_within ((-2) - v_n) 0 4) = 0) => ?_) (fun (c_1 : ¬ ((fX6_within ((-2) - v_n) 0 4) = 0)) => ?_)
  · refine lv_iload_n hx hb dX6_refuse_24 rfl (lv_at hl 2 rfl) ?_
    refine W.widen (k := 0) (n := 0) (Nat.le_of_ble_eq_true rfl) (Nat.le_of_ble_eq_true rfl) ?_
    exact W.iret (v := v_n) hx hb hr (fun t ht hW => ⟨⟨v_n, (), rfl, rfl, ⟨by rw [ht]; exact hP.sub [0] rfl, hD.sub [0] (by decide) rfl⟩⟩, hS.F ht⟩) hS.2.2 dX6_refuse_25
  · refine lv_aload_n hx hb dX6_refuse_14 rfl (lv_at hl 1 rfl) ?_
    refine va_get (D := D) (ci := 6) (v := .ref a0_refusals) (C := RX6) (T := TX6) (N := 9) hx hb htg ig_6 hown hK hP 0 rfl rfl 7 (by decide) (htg _ q_265) (fun _ h9 => h9) rfl dX6_refuse_15 ?_
    refine lv_iload_n hx hb dX6_refuse_18 rfl (lv_at hl 0 rfl) ?_
    refine lv_dup2_11 hx hb dX6_refuse_19 rfl rfl ?_
    refine va_iald hx hb hK hP 1 0 rfl rfl (oh_win c_1 (by decide)) dX6_refuse_20 ?_
    refine oh_nrm (v := 0) (by rfl) ?_
    refine lv_iconst (v := 1) hx hb dX6_refuse_21 (by decide) ?_
    refine lv_iadd hx hb dX6_refuse_22 ?_
    refine oh_nrm (v := 1) (by decide) ?_
    refine va_iast hx hb hK hP hD hS 1 0 rfl rfl (oh_win c_1 (by decide)) dX6_refuse_23 (fun H locs hP hD hS => ?_)
    have hP : va_P D vwCl [(a0, .inr (6, [.ref a0_now, .ref a0_kept, .int 0, .ref a0_ways, .ref a0_shelves, .ref a0_tape, .ref a0_reader, .ref a0_refusals, .ref a0_bestPack])), (a0_refusals, .inl (E 0, 5, .inl (upd (fun _ => 0) (((-2) - v_n).toNatClampNeg) 1)))] H := hP
    have hD : va_D A [(a0, .inr (6, [.ref a0_now, .ref a0_kept, .int 0, .ref a0_ways, .ref a0_shelves, .ref a0_tape, .ref a0_reader, .ref a0_refusals, .ref a0_bestPack])), (a0_refusals, .inl (E 0, 5, .inl (upd (fun _ => 0) (((-2) - v_n).toNatClampNeg) 1)))] := hD
    refine lv_iload_n hx hb dX6_refuse_24 rfl (lv_at hl 2 rfl) ?_
    refine W.widen (k := 0) (n := 0) (Nat.le_of_ble_eq_true rfl) (Nat.le_of_ble_eq_true rfl) ?_
    exact W.iret (v := v_n) hx hb hr (fun t ht hW => ⟨⟨v_n, (), rfl, rfl, ⟨by rw [ht]; exact hP.sub [0] rfl, hD.sub [0] (by decide) rfl⟩⟩, hS.F ht⟩) hS.2.2 dX6_refuse_25
set_option maxHeartbeats 4000000 in
set_option maxRecDepth 100000 in
theorem c_X3_holdsNothing (l : Launch) (D : va_G) (E : Nat → ClassId) (G : Nat → Nat) (a0 : Nat) (v_s : Int32) (a0_held : Nat) (a0_size : Nat) (a0_cells : Nat) (hs : vp_in v_s 8) : Met l yX3_holdsNothing (oh_w yX3_holdsNothing cX3_holdsNothing 2 (some .boolean)) ({ frames := 0, cells := 0, slots := 0, locals := 0 }) (oh_Pp D E G [.ref a0, .int v_s] [(a0, .inr (3, [.ref a0_held, .ref a0_size, .ref a0_cells])), (a0_held, .inl (E 0, 8, .inl (fun _ => (-1))))]) (vp_Si (fun r => r = 1)) 0 0 (fun _ => False) := by
  refine Met.ofW (cc := cX3_holdsNothing) (maxL := 2) (ret := (some .boolean)) (by decide) rfl ?_
  intro p e s m args below meth c s₁ B hml hv
  obtain ⟨rfl, hP, hK, hG⟩ := hv
  have hx := B.exec
  have hb := B.bytes
  have hr := B.returns
  have hts := atoms_spec (ws := (oh_w yX3_holdsNothing cX3_holdsNothing 2 (some .boolean))) B.pre
  have htg : ∀ w ∈ oh_t, w.before _ s = true := fun w h => hts w (List.mem_cons_of_mem _ h)
  have hown : s.vm.findClass RX3 = some m.cls := findClass_of_methodNamed B.named
  have hlocks := B.notSynchronized
  have hS : va_S (fun _ => False) s.heap s.heap [] := va_S.rf
  have hl := lv_entry ([.ref a0, .int v_s]) (n := 2) (Nat.le_of_ble_eq_true rfl)
  rw [lg_entry_eq]
  generalize (lg_sl ([.ref a0, .int v_s]) ++ List.replicate (2 - (lg_sl ([.ref a0, .int v_s])).length) Slot.unset).toArray = ls at hl ⊢
  have hl : lv_has ls 2 [(0, .ref a0), (1, .int v_s)] := hl
  refine lv_aload_n hx hb dX3_holdsNothing_0 rfl (lv_at hl 0 rfl) ?_
  refine va_get (D := D) (ci := 3) (v := .ref a0_held) (C := RX3) (T := TX3) (N := 3) hx hb htg ig_3 hown hK hP 0 rfl rfl 0 (by decide) (htg _ q_198) (fun _ h9 => h9) rfl dX3_holdsNothing_1 ?_
  refine lv_iload_n hx hb dX3_holdsNothing_4 rfl (lv_at hl 1 rfl) ?_
  refine va_iald hx hb hK hP 1 0 rfl rfl hs dX3_holdsNothing_5 ?_
  refine oh_nrm (v := (-1)) (by rfl) ?_
  refine lv_iconst (v := (-1)) hx hb dX3_holdsNothing_6 (by decide) ?_
  refine lv_icmp_ne (tgt := 14) hx hb dX3_holdsNothing_7 (by decide) (fun c => absurd (show (-1 : Int32) = (-1) from by decide) c) (fun _ => ?_)
  refine lv_iconst (v := 1) hx hb dX3_holdsNothing_10 (by decide) ?_
  refine lv_goto (tgt := 15) hx hb dX3_holdsNothing_11 (by decide) ?_
  exact W.zret (v := 1) (ty := .boolean) hx hb hr (by decide) (fun t ht hW => ⟨1, rfl, rfl, ht⟩) (fun q h => by cases h) dX3_holdsNothing_15
set_option maxHeartbeats 4000000 in
set_option maxRecDepth 100000 in
theorem c_X3_holdsBridge (l : Launch) (D : va_G) (E : Nat → ClassId) (G : Nat → Nat) (a0 : Nat) (v_s : Int32) (a0_held : Nat) (a0_size : Nat) (a0_cells : Nat) (hs : vp_in v_s 8) : Met l yX3_holdsBridge (oh_w yX3_holdsBridge cX3_holdsBridge 2 (some .boolean)) ({ frames := 0, cells := 0, slots := 0, locals := 0 }) (oh_Pp D E G [.ref a0, .int v_s] [(a0, .inr (3, [.ref a0_held, .ref a0_size, .ref a0_cells])), (a0_held, .inl (E 0, 8, .inl (fun _ => (-1))))]) (vp_Si (fun r => r = 0)) 0 0 (fun _ => False) := by
  refine Met.ofW (cc := cX3_holdsBridge) (maxL := 2) (ret := (some .boolean)) (by decide) rfl ?_
  intro p e s m args below meth c s₁ B hml hv
  obtain ⟨rfl, hP, hK, hG⟩ := hv
  have hx := B.exec
  have hb := B.bytes
  have hr := B.returns
  have hts := atoms_spec (ws := (oh_w yX3_holdsBridge cX3_holdsBridge 2 (some .boolean))) B.pre
  have htg : ∀ w ∈ oh_t, w.before _ s = true := fun w h => hts w (List.mem_cons_of_mem _ h)
  have hown : s.vm.findClass RX3 = some m.cls := findClass_of_methodNamed B.named
  have hlocks := B.notSynchronized
  have hS : va_S (fun _ => False) s.heap s.heap [] := va_S.rf
  have hl := lv_entry ([.ref a0, .int v_s]) (n := 2) (Nat.le_of_ble_eq_true rfl)
  rw [lg_entry_eq]
  generalize (lg_sl ([.ref a0, .int v_s]) ++ List.replicate (2 - (lg_sl ([.ref a0, .int v_s])).length) Slot.unset).toArray = ls at hl ⊢
  have hl : lv_has ls 2 [(0, .ref a0), (1, .int v_s)] := hl
  refine lv_aload_n hx hb dX3_holdsBridge_0 rfl (lv_at hl 0 rfl) ?_
  refine va_get (D := D) (ci := 3) (v := .ref a0_held) (C := RX3) (T := TX3) (N := 3) hx hb htg ig_3 hown hK hP 0 rfl rfl 0 (by decide) (htg _ q_198) (fun _ h9 => h9) rfl dX3_holdsBridge_1 ?_
  refine lv_iload_n hx hb dX3_holdsBridge_4 rfl (lv_at hl 1 rfl) ?_
  refine va_iald hx hb hK hP 1 0 rfl rfl hs dX3_holdsBridge_5 ?_
  refine oh_nrm (v := (-1)) (by rfl) ?_
  refine lv_bipush (v := 10) hx hb dX3_holdsBridge_6 (by decide) ?_
  refine lv_icmp_lt (tgt := 15) hx hb dX3_holdsBridge_8 (by decide) (fun _ => ?_) (fun c => absurd (show (-1 : Int32) < 10 from by decide) c)
  refine lv_iconst (v := 0) hx hb dX3_holdsBridge_15 (by decide) ?_
  exact W.zret (v := 0) (ty := .boolean) hx hb hr (by decide) (fun t ht hW => ⟨0, rfl, rfl, ht⟩) (fun q h => by cases h) dX3_holdsBridge_16
set_option maxHeartbeats 4000000 in
set_option maxRecDepth 100000 in
theorem c_X3_holdsRow (l : Launch) (D : va_G) (E : Nat → ClassId) (G : Nat → Nat) (a0 : Nat) (v_s : Int32) (a0_held : Nat) (a0_size : Nat) (a0_cells : Nat) (hs : vp_in v_s 8) : Met l yX3_holdsRow (oh_w yX3_holdsRow cX3_holdsRow 2 (some .boolean)) ({ frames := 1, cells := 0, slots := 0, locals := 21 }) (oh_Pp D E G [.ref a0, .int v_s] [(a0, .inr (3, [.ref a0_held, .ref a0_size, .ref a0_cells])), (a0_held, .inl (E 0, 8, .inl (fun _ => (-1))))]) (vp_Si (fun r => r = 0)) 0 0 (fun _ => False) := by
  refine Met.ofW (cc := cX3_holdsRow) (maxL := 2) (ret := (some .boolean)) (by decide) rfl ?_
  intro p e s m args below meth c s₁ B hml hv
  obtain ⟨rfl, hP, hK, hG⟩ := hv
  have hx := B.exec
  have hb := B.bytes
  have hr := B.returns
  have hts := atoms_spec (ws := (oh_w yX3_holdsRow cX3_holdsRow 2 (some .boolean))) B.pre
  have htg : ∀ w ∈ oh_t, w.before _ s = true := fun w h => hts w (List.mem_cons_of_mem _ h)
  have hown : s.vm.findClass RX3 = some m.cls := findClass_of_methodNamed B.named
  have hlocks := B.notSynchronized
  have hS : va_S (fun _ => False) s.heap s.heap [] := va_S.rf
  have hl := lv_entry ([.ref a0, .int v_s]) (n := 2) (Nat.le_of_ble_eq_true rfl)
  rw [lg_entry_eq]
  generalize (lg_sl ([.ref a0, .int v_s]) ++ List.replicate (2 - (lg_sl ([.ref a0, .int v_s])).length) Slot.unset).toArray = ls at hl ⊢
  have hl : lv_has ls 2 [(0, .ref a0), (1, .int v_s)] := hl
  refine lv_aload_n hx hb dX3_holdsRow_0 rfl (lv_at hl 0 rfl) ?_
  refine lv_iload_n hx hb dX3_holdsRow_1 rfl (lv_at hl 1 rfl) ?_
  refine oh_pV (As := [.int v_s]) (rest := []) (v := 1) ⟨hx, hb, hml, hown, htg⟩ (c_X3_holdsNothing l D E G a0 v_s a0_held a0_size a0_cells hs) (cwV 1 htg (oh_gV q_339 q_317 q_318 q_70 q_319) rfl rfl rfl pdVX3_holdsNothing ⟨Nat.le_of_ble_eq_true rfl, Nat.le_of_ble_eq_true rfl⟩) hK (hP.sub (ws' := [(a0, .inr (3, [.ref a0_held, .ref a0_size, .ref a0_cells])), (a0_held, .inl (E 0, 8, .inl (fun _ => (-1))))]) [0, 1] rfl) hG hS (va_recv hK hP (ci := 3) (q0 := 0) rfl rfl) rfl hl.1 rfl (Nat.le_of_ble_eq_true rfl) dX3_holdsRow_2 ⟨Nat.le_of_ble_eq_true rfl, Nat.le_of_ble_eq_true rfl⟩ ?_
  refine lv_if_ne (tgt := 20) hx hb dX3_holdsRow_5 (by decide) (fun _ => ?_) (fun c => absurd c (show ¬ ((1 : Int32) = 0) from by decide))
  refine lv_iconst (v := 0) hx hb dX3_holdsRow_20 (by decide) ?_
  exact W.zret (v := 0) (ty := .boolean) hx hb hr (by decide) (fun t ht hW => ⟨0, rfl, rfl, ht⟩) (fun q h => by cases h) dX3_holdsRow_21
set_option maxHeartbeats 4000000 in
set_option maxRecDepth 100000 in
theorem c_X3_holdsUnlikeRows (l : Launch) (D : va_G) (E : Nat → ClassId) (G : Nat → Nat) (a0 : Nat) (v_p : Int32) (v_q : Int32) (a0_held : Nat) (a0_size : Nat) (a0_cells : Nat) (hp : vp_in v_p 8) (hq : vp_in v_q 8) : Met l yX3_holdsUnlikeRows (oh_w yX3_holdsUnlikeRows cX3_holdsUnlikeRows 3 (some .boolean)) ({ frames := 2, cells := 0, slots := 0, locals := 42 }) (oh_Pp D E G [.ref a0, .int v_p, .int v_q] [(a0, .inr (3, [.ref a0_held, .ref a0_size, .ref a0_cells])), (a0_held, .inl (E 0, 8, .inl (fun _ => (-1))))]) (vp_Si (fun r => r = 0)) 0 0 (fun _ => False) := by
  refine Met.ofW (cc := cX3_holdsUnlikeRows) (maxL := 3) (ret := (some .boolean)) (by decide) rfl ?_
  intro p e s m args below meth c s₁ B hml hv
  obtain ⟨rfl, hP, hK, hG⟩ := hv
  have hx := B.exec
  have hb := B.bytes
  have hr := B.returns
  have hts := atoms_spec (ws := (oh_w yX3_holdsUnlikeRows cX3_holdsUnlikeRows 3 (some .boolean))) B.pre
  have htg : ∀ w ∈ oh_t, w.before _ s = true := fun w h => hts w (List.mem_cons_of_mem _ h)
  have hown : s.vm.findClass RX3 = some m.cls := findClass_of_methodNamed B.named
  have hlocks := B.notSynchronized
  have hS : va_S (fun _ => False) s.heap s.heap [] := va_S.rf
  have hl := lv_entry ([.ref a0, .int v_p, .int v_q]) (n := 3) (Nat.le_of_ble_eq_true rfl)
  rw [lg_entry_eq]
  generalize (lg_sl ([.ref a0, .int v_p, .int v_q]) ++ List.replicate (3 - (lg_sl ([.ref a0, .int v_p, .int v_q])).length) Slot.unset).toArray = ls at hl ⊢
  have hl : lv_has ls 3 [(0, .ref a0), (1, .int v_p), (2, .int v_q)] := hl
  refine lv_aload_n hx hb dX3_holdsUnlikeRows_0 rfl (lv_at hl 0 rfl) ?_
  refine lv_iload_n hx hb dX3_holdsUnlikeRows_1 rfl (lv_at hl 1 rfl) ?_
  refine oh_pV (As := [.int v_p]) (rest := []) (v := 0) ⟨hx, hb, hml, hown, htg⟩ (c_X3_holdsRow l D E G a0 v_p a0_held a0_size a0_cells hp) (cwV 1 htg (oh_gV q_335 q_336 q_337 q_70 q_338) rfl rfl rfl pdVX3_holdsRow ⟨Nat.le_of_ble_eq_true rfl, Nat.le_of_ble_eq_true rfl⟩) hK (hP.sub (ws' := [(a0, .inr (3, [.ref a0_held, .ref a0_size, .ref a0_cells])), (a0_held, .inl (E 0, 8, .inl (fun _ => (-1))))]) [0, 1] rfl) hG hS (va_recv hK hP (ci := 3) (q0 := 0) rfl rfl) rfl hl.1 rfl (Nat.le_of_ble_eq_true rfl) dX3_holdsUnlikeRows_2 ⟨Nat.le_of_ble_eq_true rfl, Nat.le_of_ble_eq_true rfl⟩ ?_
  refine lv_if_eq (tgt := 35) hx hb dX3_holdsUnlikeRows_5 (by decide) (fun _ => ?_) (fun c => absurd (show (0 : Int32) = 0 from by decide) c)
  refine lv_iconst (v := 0) hx hb dX3_holdsUnlikeRows_35 (by decide) ?_
  exact W.zret (v := 0) (ty := .boolean) hx hb hr (by decide) (fun t ht hW => ⟨0, rfl, rfl, ht⟩) (fun q h => by cases h) dX3_holdsUnlikeRows_36
set_option maxHeartbeats 4000000 in
set_option maxRecDepth 100000 in
theorem c_X3_countHeld (l : Launch) (D : va_G) (E : Nat → ClassId) (G : Nat → Nat) (a0 : Nat) (a0_held : Nat) (a0_size : Nat) (a0_cells : Nat) : Met l yX3_countHeld (oh_w yX3_countHeld cX3_countHeld 3 (some .int)) ({ frames := 1, cells := 0, slots := 0, locals := 21 }) (oh_Pp D E G [.ref a0] [(a0, .inr (3, [.ref a0_held, .ref a0_size, .ref a0_cells])), (a0_held, .inl (E 0, 8, .inl (fun _ => (-1))))]) (vp_Si (fun r => r = 0)) 0 0 (fun _ => False) := by
  refine Met.ofW (cc := cX3_countHeld) (maxL := 3) (ret := (some .int)) (by decide) rfl ?_
  intro p e s m args below meth c s₁ B hml hv
  obtain ⟨rfl, hP, hK, hG⟩ := hv
  have hx := B.exec
  have hb := B.bytes
  have hr := B.returns
  have hts := atoms_spec (ws := (oh_w yX3_countHeld cX3_countHeld 3 (some .int))) B.pre
  have htg : ∀ w ∈ oh_t, w.before _ s = true := fun w h => hts w (List.mem_cons_of_mem _ h)
  have hown : s.vm.findClass RX3 = some m.cls := findClass_of_methodNamed B.named
  have hlocks := B.notSynchronized
  have hS : va_S (fun _ => False) s.heap s.heap [] := va_S.rf
  have hl := lv_entry ([.ref a0]) (n := 3) (Nat.le_of_ble_eq_true rfl)
  rw [lg_entry_eq]
  generalize (lg_sl ([.ref a0]) ++ List.replicate (3 - (lg_sl ([.ref a0])).length) Slot.unset).toArray = ls at hl ⊢
  have hl : lv_has ls 3 [(0, .ref a0)] := hl
  refine lv_iconst (v := 0) hx hb dX3_countHeld_0 (by decide) ?_
  refine lv_istore_n (lv' := [(1, .int 0), (0, .ref a0)]) hx hb dX3_countHeld_1 rfl hl (by decide) rfl (fun ls hl => ?_)
  refine lv_iconst (v := 0) hx hb dX3_countHeld_2 (by decide) ?_
  refine lv_istore_n (lv' := [(2, .int 0), (1, .int 0), (0, .ref a0)]) hx hb dX3_countHeld_3 rfl hl (by decide) rfl (fun ls hl => ?_)
  refine lv_iload_n hx hb dX3_countHeld_4 rfl (lv_at hl 0 rfl) ?_
  refine lv_bipush (v := 8) hx hb dX3_countHeld_5 (by decide) ?_
  refine lv_icmp_ge (tgt := 27) hx hb dX3_countHeld_7 (by decide) (fun c => absurd c (show ¬ (8 ≤ (0 : Int32)) from by decide)) (fun _ => ?_)
  refine lv_aload_n hx hb dX3_countHeld_10 rfl (lv_at hl 2 rfl) ?_
  refine lv_iload_n hx hb dX3_countHeld_11 rfl (lv_at hl 0 rfl) ?_
  refine oh_pV (As := [.int 0]) (rest := []) (v := 1) ⟨hx, hb, hml, hown, htg⟩ (c_X3_holdsNothing l D E G a0 0 a0_held a0_size a0_cells (show vp_in 0 8 by unfold vp_in; decide)) (cwV 1 htg (oh_gV q_339 q_317 q_318 q_70 q_319) rfl rfl rfl pdVX3_holdsNothing ⟨Nat.le_of_ble_eq_true rfl, Nat.le_of_ble_eq_true rfl⟩) hK (hP.sub (ws' := [(a0, .inr (3, [.ref a0_held, .ref a0_size, .ref a0_cells])), (a0_held, .inl (E 0, 8, .inl (fun _ => (-1))))]) [0, 1] rfl) hG hS (va_recv hK hP (ci := 3) (q0 := 0) rfl rfl) rfl hl.1 rfl (Nat.le_of_ble_eq_true rfl) dX3_countHeld_12 ⟨Nat.le_of_ble_eq_true rfl, Nat.le_of_ble_eq_true rfl⟩ ?_
  refine lv_if_ne (tgt := 21) hx hb dX3_countHeld_15 (by decide) (fun _ => ?_) (fun c => absurd c (show ¬ ((1 : Int32) = 0) from by decide))
  refine lv_iinc (v := 1) (lv' := [(2, .int 1), (1, .int 0), (0, .ref a0)]) hx hb dX3_countHeld_21 hl (k := 0) rfl (by decide) (by decide) rfl (fun ls hl => ?_)
  refine lv_goto (tgt := 4) hx hb dX3_countHeld_24 (by decide) ?_
  refine lv_iload_n hx hb dX3_countHeld_4 rfl (lv_at hl 0 rfl) ?_
  refine lv_bipush (v := 8) hx hb dX3_countHeld_5 (by decide) ?_
  refine lv_icmp_ge (tgt := 27) hx hb dX3_countHeld_7 (by decide) (fun c => absurd c (show ¬ (8 ≤ (1 : Int32)) from by decide)) (fun _ => ?_)
  refine lv_aload_n hx hb dX3_countHeld_10 rfl (lv_at hl 2 rfl) ?_
  refine lv_iload_n hx hb dX3_countHeld_11 rfl (lv_at hl 0 rfl) ?_
  refine oh_pV (As := [.int 1]) (rest := []) (v := 1) ⟨hx, hb, hml, hown, htg⟩ (c_X3_holdsNothing l D E G a0 1 a0_held a0_size a0_cells (show vp_in 1 8 by unfold vp_in; decide)) (cwV 1 htg (oh_gV q_339 q_317 q_318 q_70 q_319) rfl rfl rfl pdVX3_holdsNothing ⟨Nat.le_of_ble_eq_true rfl, Nat.le_of_ble_eq_true rfl⟩) hK (hP.sub (ws' := [(a0, .inr (3, [.ref a0_held, .ref a0_size, .ref a0_cells])), (a0_held, .inl (E 0, 8, .inl (fun _ => (-1))))]) [0, 1] rfl) hG hS (va_recv hK hP (ci := 3) (q0 := 0) rfl rfl) rfl hl.1 rfl (Nat.le_of_ble_eq_true rfl) dX3_countHeld_12 ⟨Nat.le_of_ble_eq_true rfl, Nat.le_of_ble_eq_true rfl⟩ ?_
  refine lv_if_ne (tgt := 21) hx hb dX3_countHeld_15 (by decide) (fun _ => ?_) (fun c => absurd c (show ¬ ((1 : Int32) = 0) from by decide))
  refine lv_iinc (v := 2) (lv' := [(2, .int 2), (1, .int 0), (0, .ref a0)]) hx hb dX3_countHeld_21 hl (k := 0) rfl (by decide) (by decide) rfl (fun ls hl => ?_)
  refine lv_goto (tgt := 4) hx hb dX3_countHeld_24 (by decide) ?_
  refine lv_iload_n hx hb dX3_countHeld_4 rfl (lv_at hl 0 rfl) ?_
  refine lv_bipush (v := 8) hx hb dX3_countHeld_5 (by decide) ?_
  refine lv_icmp_ge (tgt := 27) hx hb dX3_countHeld_7 (by decide) (fun c => absurd c (show ¬ (8 ≤ (2 : Int32)) from by decide)) (fun _ => ?_)
  refine lv_aload_n hx hb dX3_countHeld_10 rfl (lv_at hl 2 rfl) ?_
  refine lv_iload_n hx hb dX3_countHeld_11 rfl (lv_at hl 0 rfl) ?_
  refine oh_pV (As := [.int 2]) (rest := []) (v := 1) ⟨hx, hb, hml, hown, htg⟩ (c_X3_holdsNothing l D E G a0 2 a0_held a0_size a0_cells (show vp_in 2 8 by unfold vp_in; decide)) (cwV 1 htg (oh_gV q_339 q_317 q_318 q_70 q_319) rfl rfl rfl pdVX3_holdsNothing ⟨Nat.le_of_ble_eq_true rfl, Nat.le_of_ble_eq_true rfl⟩) hK (hP.sub (ws' := [(a0, .inr (3, [.ref a0_held, .ref a0_size, .ref a0_cells])), (a0_held, .inl (E 0, 8, .inl (fun _ => (-1))))]) [0, 1] rfl) hG hS (va_recv hK hP (ci := 3) (q0 := 0) rfl rfl) rfl hl.1 rfl (Nat.le_of_ble_eq_true rfl) dX3_countHeld_12 ⟨Nat.le_of_ble_eq_true rfl, Nat.le_of_ble_eq_true rfl⟩ ?_
  refine lv_if_ne (tgt := 21) hx hb dX3_countHeld_15 (by decide) (fun _ => ?_) (fun c => absurd c (show ¬ ((1 : Int32) = 0) from by decide))
  refine lv_iinc (v := 3) (lv' := [(2, .int 3), (1, .int 0), (0, .ref a0)]) hx hb dX3_countHeld_21 hl (k := 0) rfl (by decide) (by decide) rfl (fun ls hl => ?_)
  refine lv_goto (tgt := 4) hx hb dX3_countHeld_24 (by decide) ?_
  refine lv_iload_n hx hb dX3_countHeld_4 rfl (lv_at hl 0 rfl) ?_
  refine lv_bipush (v := 8) hx hb dX3_countHeld_5 (by decide) ?_
  refine lv_icmp_ge (tgt := 27) hx hb dX3_countHeld_7 (by decide) (fun c => absurd c (show ¬ (8 ≤ (3 : Int32)) from by decide)) (fun _ => ?_)
  refine lv_aload_n hx hb dX3_countHeld_10 rfl (lv_at hl 2 rfl) ?_
  refine lv_iload_n hx hb dX3_countHeld_11 rfl (lv_at hl 0 rfl) ?_
  refine oh_pV (As := [.int 3]) (rest := []) (v := 1) ⟨hx, hb, hml, hown, htg⟩ (c_X3_holdsNothing l D E G a0 3 a0_held a0_size a0_cells (show vp_in 3 8 by unfold vp_in; decide)) (cwV 1 htg (oh_gV q_339 q_317 q_318 q_70 q_319) rfl rfl rfl pdVX3_holdsNothing ⟨Nat.le_of_ble_eq_true rfl, Nat.le_of_ble_eq_true rfl⟩) hK (hP.sub (ws' := [(a0, .inr (3, [.ref a0_held, .ref a0_size, .ref a0_cells])), (a0_held, .inl (E 0, 8, .inl (fun _ => (-1))))]) [0, 1] rfl) hG hS (va_recv hK hP (ci := 3) (q0 := 0) rfl rfl) rfl hl.1 rfl (Nat.le_of_ble_eq_true rfl) dX3_countHeld_12 ⟨Nat.le_of_ble_eq_true rfl, Nat.le_of_ble_eq_true rfl⟩ ?_
  refine lv_if_ne (tgt := 21) hx hb dX3_countHeld_15 (by decide) (fun _ => ?_) (fun c => absurd c (show ¬ ((1 : Int32) = 0) from by decide))
  refine lv_iinc (v := 4) (lv' := [(2, .int 4), (1, .int 0), (0, .ref a0)]) hx hb dX3_countHeld_21 hl (k := 0) rfl (by decide) (by decide) rfl (fun ls hl => ?_)
  refine lv_goto (tgt := 4) hx hb dX3_countHeld_24 (by decide) ?_
  refine lv_iload_n hx hb dX3_countHeld_4 rfl (lv_at hl 0 rfl) ?_
  refine lv_bipush (v := 8) hx hb dX3_countHeld_5 (by decide) ?_
  refine lv_icmp_ge (tgt := 27) hx hb dX3_countHeld_7 (by decide) (fun c => absurd c (show ¬ (8 ≤ (4 : Int32)) from by decide)) (fun _ => ?_)
  refine lv_aload_n hx hb dX3_countHeld_10 rfl (lv_at hl 2 rfl) ?_
  refine lv_iload_n hx hb dX3_countHeld_11 rfl (lv_at hl 0 rfl) ?_
  refine oh_pV (As := [.int 4]) (rest := []) (v := 1) ⟨hx, hb, hml, hown, htg⟩ (c_X3_holdsNothing l D E G a0 4 a0_held a0_size a0_cells (show vp_in 4 8 by unfold vp_in; decide)) (cwV 1 htg (oh_gV q_339 q_317 q_318 q_70 q_319) rfl rfl rfl pdVX3_holdsNothing ⟨Nat.le_of_ble_eq_true rfl, Nat.le_of_ble_eq_true rfl⟩) hK (hP.sub (ws' := [(a0, .inr (3, [.ref a0_held, .ref a0_size, .ref a0_cells])), (a0_held, .inl (E 0, 8, .inl (fun _ => (-1))))]) [0, 1] rfl) hG hS (va_recv hK hP (ci := 3) (q0 := 0) rfl rfl) rfl hl.1 rfl (Nat.le_of_ble_eq_true rfl) dX3_countHeld_12 ⟨Nat.le_of_ble_eq_true rfl, Nat.le_of_ble_eq_true rfl⟩ ?_
  refine lv_if_ne (tgt := 21) hx hb dX3_countHeld_15 (by decide) (fun _ => ?_) (fun c => absurd c (show ¬ ((1 : Int32) = 0) from by decide))
  refine lv_iinc (v := 5) (lv' := [(2, .int 5), (1, .int 0), (0, .ref a0)]) hx hb dX3_countHeld_21 hl (k := 0) rfl (by decide) (by decide) rfl (fun ls hl => ?_)
  refine lv_goto (tgt := 4) hx hb dX3_countHeld_24 (by decide) ?_
  refine lv_iload_n hx hb dX3_countHeld_4 rfl (lv_at hl 0 rfl) ?_
  refine lv_bipush (v := 8) hx hb dX3_countHeld_5 (by decide) ?_
  refine lv_icmp_ge (tgt := 27) hx hb dX3_countHeld_7 (by decide) (fun c => absurd c (show ¬ (8 ≤ (5 : Int32)) from by decide)) (fun _ => ?_)
  refine lv_aload_n hx hb dX3_countHeld_10 rfl (lv_at hl 2 rfl) ?_
  refine lv_iload_n hx hb dX3_countHeld_11 rfl (lv_at hl 0 rfl) ?_
  refine oh_pV (As := [.int 5]) (rest := []) (v := 1) ⟨hx, hb, hml, hown, htg⟩ (c_X3_holdsNothing l D E G a0 5 a0_held a0_size a0_cells (show vp_in 5 8 by unfold vp_in; decide)) (cwV 1 htg (oh_gV q_339 q_317 q_318 q_70 q_319) rfl rfl rfl pdVX3_holdsNothing ⟨Nat.le_of_ble_eq_true rfl, Nat.le_of_ble_eq_true rfl⟩) hK (hP.sub (ws' := [(a0, .inr (3, [.ref a0_held, .ref a0_size, .ref a0_cells])), (a0_held, .inl (E 0, 8, .inl (fun _ => (-1))))]) [0, 1] rfl) hG hS (va_recv hK hP (ci := 3) (q0 := 0) rfl rfl) rfl hl.1 rfl (Nat.le_of_ble_eq_true rfl) dX3_countHeld_12 ⟨Nat.le_of_ble_eq_true rfl, Nat.le_of_ble_eq_true rfl⟩ ?_
  refine lv_if_ne (tgt := 21) hx hb dX3_countHeld_15 (by decide) (fun _ => ?_) (fun c => absurd c (show ¬ ((1 : Int32) = 0) from by decide))
  refine lv_iinc (v := 6) (lv' := [(2, .int 6), (1, .int 0), (0, .ref a0)]) hx hb dX3_countHeld_21 hl (k := 0) rfl (by decide) (by decide) rfl (fun ls hl => ?_)
  refine lv_goto (tgt := 4) hx hb dX3_countHeld_24 (by decide) ?_
  refine lv_iload_n hx hb dX3_countHeld_4 rfl (lv_at hl 0 rfl) ?_
  refine lv_bipush (v := 8) hx hb dX3_countHeld_5 (by decide) ?_
  refine lv_icmp_ge (tgt := 27) hx hb dX3_countHeld_7 (by decide) (fun c => absurd c (show ¬ (8 ≤ (6 : Int32)) from by decide)) (fun _ => ?_)
  refine lv_aload_n hx hb dX3_countHeld_10 rfl (lv_at hl 2 rfl) ?_
  refine lv_iload_n hx hb dX3_countHeld_11 rfl (lv_at hl 0 rfl) ?_
  refine oh_pV (As := [.int 6]) (rest := []) (v := 1) ⟨hx, hb, hml, hown, htg⟩ (c_X3_holdsNothing l D E G a0 6 a0_held a0_size a0_cells (show vp_in 6 8 by unfold vp_in; decide)) (cwV 1 htg (oh_gV q_339 q_317 q_318 q_70 q_319) rfl rfl rfl pdVX3_holdsNothing ⟨Nat.le_of_ble_eq_true rfl, Nat.le_of_ble_eq_true rfl⟩) hK (hP.sub (ws' := [(a0, .inr (3, [.ref a0_held, .ref a0_size, .ref a0_cells])), (a0_held, .inl (E 0, 8, .inl (fun _ => (-1))))]) [0, 1] rfl) hG hS (va_recv hK hP (ci := 3) (q0 := 0) rfl rfl) rfl hl.1 rfl (Nat.le_of_ble_eq_true rfl) dX3_countHeld_12 ⟨Nat.le_of_ble_eq_true rfl, Nat.le_of_ble_eq_true rfl⟩ ?_
  refine lv_if_ne (tgt := 21) hx hb dX3_countHeld_15 (by decide) (fun _ => ?_) (fun c => absurd c (show ¬ ((1 : Int32) = 0) from by decide))
  refine lv_iinc (v := 7) (lv' := [(2, .int 7), (1, .int 0), (0, .ref a0)]) hx hb dX3_countHeld_21 hl (k := 0) rfl (by decide) (by decide) rfl (fun ls hl => ?_)
  refine lv_goto (tgt := 4) hx hb dX3_countHeld_24 (by decide) ?_
  refine lv_iload_n hx hb dX3_countHeld_4 rfl (lv_at hl 0 rfl) ?_
  refine lv_bipush (v := 8) hx hb dX3_countHeld_5 (by decide) ?_
  refine lv_icmp_ge (tgt := 27) hx hb dX3_countHeld_7 (by decide) (fun c => absurd c (show ¬ (8 ≤ (7 : Int32)) from by decide)) (fun _ => ?_)
  refine lv_aload_n hx hb dX3_countHeld_10 rfl (lv_at hl 2 rfl) ?_
  refine lv_iload_n hx hb dX3_countHeld_11 rfl (lv_at hl 0 rfl) ?_
  refine oh_pV (As := [.int 7]) (rest := []) (v := 1) ⟨hx, hb, hml, hown, htg⟩ (c_X3_holdsNothing l D E G a0 7 a0_held a0_size a0_cells (show vp_in 7 8 by unfold vp_in; decide)) (cwV 1 htg (oh_gV q_339 q_317 q_318 q_70 q_319) rfl rfl rfl pdVX3_holdsNothing ⟨Nat.le_of_ble_eq_true rfl, Nat.le_of_ble_eq_true rfl⟩) hK (hP.sub (ws' := [(a0, .inr (3, [.ref a0_held, .ref a0_size, .ref a0_cells])), (a0_held, .inl (E 0, 8, .inl (fun _ => (-1))))]) [0, 1] rfl) hG hS (va_recv hK hP (ci := 3) (q0 := 0) rfl rfl) rfl hl.1 rfl (Nat.le_of_ble_eq_true rfl) dX3_countHeld_12 ⟨Nat.le_of_ble_eq_true rfl, Nat.le_of_ble_eq_true rfl⟩ ?_
  refine lv_if_ne (tgt := 21) hx hb dX3_countHeld_15 (by decide) (fun _ => ?_) (fun c => absurd c (show ¬ ((1 : Int32) = 0) from by decide))
  refine lv_iinc (v := 8) (lv' := [(2, .int 8), (1, .int 0), (0, .ref a0)]) hx hb dX3_countHeld_21 hl (k := 0) rfl (by decide) (by decide) rfl (fun ls hl => ?_)
  refine lv_goto (tgt := 4) hx hb dX3_countHeld_24 (by decide) ?_
  refine lv_iload_n hx hb dX3_countHeld_4 rfl (lv_at hl 0 rfl) ?_
  refine lv_bipush (v := 8) hx hb dX3_countHeld_5 (by decide) ?_
  refine lv_icmp_ge (tgt := 27) hx hb dX3_countHeld_7 (by decide) (fun _ => ?_) (fun c => absurd (show 8 ≤ (8 : Int32) from by decide) c)
  refine lv_iload_n hx hb dX3_countHeld_27 rfl (lv_at hl 1 rfl) ?_
  exact W.iret (v := 0) hx hb hr (fun t ht hW => ⟨0, rfl, rfl, ht⟩) (fun q h => by cases h) dX3_countHeld_28
set_option maxHeartbeats 4000000 in
set_option maxRecDepth 100000 in
theorem c_X0_hasRoom0 (l : Launch) (D : va_G) (E : Nat → ClassId) (G : Nat → Nat) (a0 : Nat) (a0_counts : Nat) (a0_roads : Nat) (a0_bridges : Nat) (a0_waggons : Nat) (a0_parts : Nat) (a0_settings : Nat) (a0_trip : Nat) : Met l yX0_hasRoom (oh_w yX0_hasRoom cX0_hasRoom 2 (some .boolean)) ({ frames := 0, cells := 0, slots := 0, locals := 0 }) (oh_Pp D E G [.ref a0, .int 0] [(a0, .inr (0, [.ref a0_counts, .ref a0_roads, .ref a0_bridges, .ref a0_waggons, .ref a0_parts, .ref a0_settings, .ref a0_trip, .int 0])), (a0_counts, .inl (E 0, 4, .inl (fun _ => 0)))]) (vp_Si (fun r => r = 1)) 0 0 (fun _ => False) := by
  refine Met.ofW (cc := cX0_hasRoom) (maxL := 2) (ret := (some .boolean)) (by decide) rfl ?_
  intro p e s m args below meth c s₁ B hml hv
  obtain ⟨rfl, hP, hK, hG⟩ := hv
  have hx := B.exec
  have hb := B.bytes
  have hr := B.returns
  have hts := atoms_spec (ws := (oh_w yX0_hasRoom cX0_hasRoom 2 (some .boolean))) B.pre
  have htg : ∀ w ∈ oh_t, w.before _ s = true := fun w h => hts w (List.mem_cons_of_mem _ h)
  have hown : s.vm.findClass RX0 = some m.cls := findClass_of_methodNamed B.named
  have hlocks := B.notSynchronized
  have hS : va_S (fun _ => False) s.heap s.heap [] := va_S.rf
  have hl := lv_entry ([.ref a0, .int 0]) (n := 2) (Nat.le_of_ble_eq_true rfl)
  rw [lg_entry_eq]
  generalize (lg_sl ([.ref a0, .int 0]) ++ List.replicate (2 - (lg_sl ([.ref a0, .int 0])).length) Slot.unset).toArray = ls at hl ⊢
  have hl : lv_has ls 2 [(0, .ref a0), (1, .int 0)] := hl
  refine lv_aload_n hx hb dX0_hasRoom_0 rfl (lv_at hl 0 rfl) ?_
  refine va_get (D := D) (ci := 0) (v := .ref a0_counts) (C := RX0) (T := TX0) (N := 8) hx hb htg ig_0 hown hK hP 0 rfl rfl 0 (by decide) (htg _ q_97) (fun _ h9 => h9) rfl dX0_hasRoom_1 ?_
  refine lv_iload_n hx hb dX0_hasRoom_4 rfl (lv_at hl 1 rfl) ?_
  refine va_iald hx hb hK hP 1 0 rfl rfl (show vp_in 0 4 by unfold vp_in; decide) dX0_hasRoom_5 ?_
  refine oh_nrm (v := 0) (by decide) ?_
  refine va_getsN hx hb hG.2.2.2.1.1 hS hown (va_Nw.use rfl (hG.2.1 ("OneHeavyLoad$Land", 9, "OneHeavyLoad", "ROOM", "[I", "OneHeavyLoad") (List.mem_of_getElem? (i := 0) rfl))) (fun _ h9 => h9) dX0_hasRoom_6 ?_
  refine lv_iload_n hx hb dX0_hasRoom_9 rfl (lv_at hl 1 rfl) ?_
  refine va_ti (v := .int 24) hx hb hG.2.2.2.1.2 hS (show vp_in 0 4 by unfold vp_in; decide) (by decide) dX0_hasRoom_10 ?_
  refine lv_icmp_ge (tgt := 18) hx hb dX0_hasRoom_11 (by decide) (fun c => absurd c (show ¬ (24 ≤ (0 : Int32)) from by decide)) (fun _ => ?_)
  refine lv_iconst (v := 1) hx hb dX0_hasRoom_14 (by decide) ?_
  refine lv_goto (tgt := 19) hx hb dX0_hasRoom_15 (by decide) ?_
  exact W.zret (v := 1) (ty := .boolean) hx hb hr (by decide) (fun t ht hW => ⟨1, rfl, rfl, ht⟩) (fun q h => by cases h) dX0_hasRoom_19
set_option maxHeartbeats 4000000 in
set_option maxRecDepth 100000 in
theorem c_X0_hasRoom2 (l : Launch) (D : va_G) (E : Nat → ClassId) (G : Nat → Nat) (a0 : Nat) (a0_counts : Nat) (a0_roads : Nat) (a0_bridges : Nat) (a0_waggons : Nat) (a0_parts : Nat) (a0_settings : Nat) (a0_trip : Nat) : Met l yX0_hasRoom (oh_w yX0_hasRoom cX0_hasRoom 2 (some .boolean)) ({ frames := 0, cells := 0, slots := 0, locals := 0 }) (oh_Pp D E G [.ref a0, .int 2] [(a0, .inr (0, [.ref a0_counts, .ref a0_roads, .ref a0_bridges, .ref a0_waggons, .ref a0_parts, .ref a0_settings, .ref a0_trip, .int 0])), (a0_counts, .inl (E 0, 4, .inl (fun _ => 0)))]) (vp_Si (fun r => r = 1)) 0 0 (fun _ => False) := by
  refine Met.ofW (cc := cX0_hasRoom) (maxL := 2) (ret := (some .boolean)) (by decide) rfl ?_
  intro p e s m args below meth c s₁ B hml hv
  obtain ⟨rfl, hP, hK, hG⟩ := hv
  have hx := B.exec
  have hb := B.bytes
  have hr := B.returns
  have hts := atoms_spec (ws := (oh_w yX0_hasRoom cX0_hasRoom 2 (some .boolean))) B.pre
  have htg : ∀ w ∈ oh_t, w.before _ s = true := fun w h => hts w (List.mem_cons_of_mem _ h)
  have hown : s.vm.findClass RX0 = some m.cls := findClass_of_methodNamed B.named
  have hlocks := B.notSynchronized
  have hS : va_S (fun _ => False) s.heap s.heap [] := va_S.rf
  have hl := lv_entry ([.ref a0, .int 2]) (n := 2) (Nat.le_of_ble_eq_true rfl)
  rw [lg_entry_eq]
  generalize (lg_sl ([.ref a0, .int 2]) ++ List.replicate (2 - (lg_sl ([.ref a0, .int 2])).length) Slot.unset).toArray = ls at hl ⊢
  have hl : lv_has ls 2 [(0, .ref a0), (1, .int 2)] := hl
  refine lv_aload_n hx hb dX0_hasRoom_0 rfl (lv_at hl 0 rfl) ?_
  refine va_get (D := D) (ci := 0) (v := .ref a0_counts) (C := RX0) (T := TX0) (N := 8) hx hb htg ig_0 hown hK hP 0 rfl rfl 0 (by decide) (htg _ q_97) (fun _ h9 => h9) rfl dX0_hasRoom_1 ?_
  refine lv_iload_n hx hb dX0_hasRoom_4 rfl (lv_at hl 1 rfl) ?_
  refine va_iald hx hb hK hP 1 0 rfl rfl (show vp_in 2 4 by unfold vp_in; decide) dX0_hasRoom_5 ?_
  refine oh_nrm (v := 0) (by decide) ?_
  refine va_getsN hx hb hG.2.2.2.1.1 hS hown (va_Nw.use rfl (hG.2.1 ("OneHeavyLoad$Land", 9, "OneHeavyLoad", "ROOM", "[I", "OneHeavyLoad") (List.mem_of_getElem? (i := 0) rfl))) (fun _ h9 => h9) dX0_hasRoom_6 ?_
  refine lv_iload_n hx hb dX0_hasRoom_9 rfl (lv_at hl 1 rfl) ?_
  refine va_ti (v := .int 5) hx hb hG.2.2.2.1.2 hS (show vp_in 2 4 by unfold vp_in; decide) (by decide) dX0_hasRoom_10 ?_
  refine lv_icmp_ge (tgt := 18) hx hb dX0_hasRoom_11 (by decide) (fun c => absurd c (show ¬ (5 ≤ (0 : Int32)) from by decide)) (fun _ => ?_)
  refine lv_iconst (v := 1) hx hb dX0_hasRoom_14 (by decide) ?_
  refine lv_goto (tgt := 19) hx hb dX0_hasRoom_15 (by decide) ?_
  exact W.zret (v := 1) (ty := .boolean) hx hb hr (by decide) (fun t ht hW => ⟨1, rfl, rfl, ht⟩) (fun q h => by cases h) dX0_hasRoom_19
set_option maxHeartbeats 4000000 in
set_option maxRecDepth 100000 in
theorem c_X0_hasRoom3 (l : Launch) (D : va_G) (E : Nat → ClassId) (G : Nat → Nat) (a0 : Nat) (a0_counts : Nat) (a0_roads : Nat) (a0_bridges : Nat) (a0_waggons : Nat) (a0_parts : Nat) (a0_settings : Nat) (a0_trip : Nat) : Met l yX0_hasRoom (oh_w yX0_hasRoom cX0_hasRoom 2 (some .boolean)) ({ frames := 0, cells := 0, slots := 0, locals := 0 }) (oh_Pp D E G [.ref a0, .int 3] [(a0, .inr (0, [.ref a0_counts, .ref a0_roads, .ref a0_bridges, .ref a0_waggons, .ref a0_parts, .ref a0_settings, .ref a0_trip, .int 0])), (a0_counts, .inl (E 0, 4, .inl (fun _ => 0)))]) (vp_Si (fun r => r = 1)) 0 0 (fun _ => False) := by
  refine Met.ofW (cc := cX0_hasRoom) (maxL := 2) (ret := (some .boolean)) (by decide) rfl ?_
  intro p e s m args below meth c s₁ B hml hv
  obtain ⟨rfl, hP, hK, hG⟩ := hv
  have hx := B.exec
  have hb := B.bytes
  have hr := B.returns
  have hts := atoms_spec (ws := (oh_w yX0_hasRoom cX0_hasRoom 2 (some .boolean))) B.pre
  have htg : ∀ w ∈ oh_t, w.before _ s = true := fun w h => hts w (List.mem_cons_of_mem _ h)
  have hown : s.vm.findClass RX0 = some m.cls := findClass_of_methodNamed B.named
  have hlocks := B.notSynchronized
  have hS : va_S (fun _ => False) s.heap s.heap [] := va_S.rf
  have hl := lv_entry ([.ref a0, .int 3]) (n := 2) (Nat.le_of_ble_eq_true rfl)
  rw [lg_entry_eq]
  generalize (lg_sl ([.ref a0, .int 3]) ++ List.replicate (2 - (lg_sl ([.ref a0, .int 3])).length) Slot.unset).toArray = ls at hl ⊢
  have hl : lv_has ls 2 [(0, .ref a0), (1, .int 3)] := hl
  refine lv_aload_n hx hb dX0_hasRoom_0 rfl (lv_at hl 0 rfl) ?_
  refine va_get (D := D) (ci := 0) (v := .ref a0_counts) (C := RX0) (T := TX0) (N := 8) hx hb htg ig_0 hown hK hP 0 rfl rfl 0 (by decide) (htg _ q_97) (fun _ h9 => h9) rfl dX0_hasRoom_1 ?_
  refine lv_iload_n hx hb dX0_hasRoom_4 rfl (lv_at hl 1 rfl) ?_
  refine va_iald hx hb hK hP 1 0 rfl rfl (show vp_in 3 4 by unfold vp_in; decide) dX0_hasRoom_5 ?_
  refine oh_nrm (v := 0) (by decide) ?_
  refine va_getsN hx hb hG.2.2.2.1.1 hS hown (va_Nw.use rfl (hG.2.1 ("OneHeavyLoad$Land", 9, "OneHeavyLoad", "ROOM", "[I", "OneHeavyLoad") (List.mem_of_getElem? (i := 0) rfl))) (fun _ h9 => h9) dX0_hasRoom_6 ?_
  refine lv_iload_n hx hb dX0_hasRoom_9 rfl (lv_at hl 1 rfl) ?_
  refine va_ti (v := .int 5) hx hb hG.2.2.2.1.2 hS (show vp_in 3 4 by unfold vp_in; decide) (by decide) dX0_hasRoom_10 ?_
  refine lv_icmp_ge (tgt := 18) hx hb dX0_hasRoom_11 (by decide) (fun c => absurd c (show ¬ (5 ≤ (0 : Int32)) from by decide)) (fun _ => ?_)
  refine lv_iconst (v := 1) hx hb dX0_hasRoom_14 (by decide) ?_
  refine lv_goto (tgt := 19) hx hb dX0_hasRoom_15 (by decide) ?_
  exact W.zret (v := 1) (ty := .boolean) hx hb hr (by decide) (fun t ht hW => ⟨1, rfl, rfl, ht⟩) (fun q h => by cases h) dX0_hasRoom_19
set_option maxHeartbeats 4000000 in
set_option maxRecDepth 100000 in
theorem c_X0_countBridges (l : Launch) (D : va_G) (E : Nat → ClassId) (G : Nat → Nat) (a0 : Nat) (v_c : Int32) (a0_counts : Nat) (a0_roads : Nat) (a0_bridges : Nat) (a0_waggons : Nat) (a0_parts : Nat) (a0_settings : Nat) (a0_trip : Nat) : Met l yX0_countBridges (oh_w yX0_countBridges cX0_countBridges 4 (some .int)) ({ frames := 0, cells := 0, slots := 0, locals := 0 }) (oh_Pp D E G [.ref a0, .int v_c] [(a0, .inr (0, [.ref a0_counts, .ref a0_roads, .ref a0_bridges, .ref a0_waggons, .ref a0_parts, .ref a0_settings, .ref a0_trip, .int 0])), (a0_counts, .inl (E 0, 4, .inl (fun _ => 0)))]) (vp_Si (fun r => r = 0)) 0 0 (fun _ => False) := by
  refine Met.ofW (cc := cX0_countBridges) (maxL := 4) (ret := (some .int)) (by decide) rfl ?_
  intro p e s m args below meth c s₁ B hml hv
  obtain ⟨rfl, hP, hK, hG⟩ := hv
  have hx := B.exec
  have hb := B.bytes
  have hr := B.returns
  have hts := atoms_spec (ws := (oh_w yX0_countBridges cX0_countBridges 4 (some .int))) B.pre
  have htg : ∀ w ∈ oh_t, w.before _ s = true := fun w h => hts w (List.mem_cons_of_mem _ h)
  have hown : s.vm.findClass RX0 = some m.cls := findClass_of_methodNamed B.named
  have hlocks := B.notSynchronized
  have hS : va_S (fun _ => False) s.heap s.heap [] := va_S.rf
  have hl := lv_entry ([.ref a0, .int v_c]) (n := 4) (Nat.le_of_ble_eq_true rfl)
  rw [lg_entry_eq]
  generalize (lg_sl ([.ref a0, .int v_c]) ++ List.replicate (4 - (lg_sl ([.ref a0, .int v_c])).length) Slot.unset).toArray = ls at hl ⊢
  have hl : lv_has ls 4 [(0, .ref a0), (1, .int v_c)] := hl
  refine lv_iconst (v := 0) hx hb dX0_countBridges_0 (by decide) ?_
  refine lv_istore_n (lv' := [(2, .int 0), (0, .ref a0), (1, .int v_c)]) hx hb dX0_countBridges_1 rfl hl (by decide) rfl (fun ls hl => ?_)
  refine lv_iconst (v := 0) hx hb dX0_countBridges_2 (by decide) ?_
  refine lv_istore_n (lv' := [(3, .int 0), (2, .int 0), (0, .ref a0), (1, .int v_c)]) hx hb dX0_countBridges_3 rfl hl (by decide) rfl (fun ls hl => ?_)
  refine lv_iload_n hx hb dX0_countBridges_4 rfl (lv_at hl 0 rfl) ?_
  refine lv_aload_n hx hb dX0_countBridges_5 rfl (lv_at hl 2 rfl) ?_
  refine va_get (D := D) (ci := 0) (v := .ref a0_counts) (C := RX0) (T := TX0) (N := 8) hx hb htg ig_0 hown hK hP 0 rfl rfl 0 (by decide) (htg _ q_97) (fun _ h9 => h9) rfl dX0_countBridges_6 ?_
  refine lv_iconst (v := 1) hx hb dX0_countBridges_9 (by decide) ?_
  refine va_iald hx hb hK hP 1 0 rfl rfl (show vp_in 1 4 by unfold vp_in; decide) dX0_countBridges_10 ?_
  refine oh_nrm (v := 0) (by decide) ?_
  refine lv_icmp_ge (tgt := 29) hx hb dX0_countBridges_11 (by decide) (fun _ => ?_) (fun c => absurd (show 0 ≤ (0 : Int32) from by decide) c)
  refine lv_iload_n hx hb dX0_countBridges_29 rfl (lv_at hl 1 rfl) ?_
  exact W.iret (v := 0) hx hb hr (fun t ht hW => ⟨0, rfl, rfl, ht⟩) (fun q h => by cases h) dX0_countBridges_30
def fX6_whyNoRow (v_s : Int32) : Int32 :=
  if (fX6_within v_s 0 7) = 0 then (-2) else (-4)
set_option maxHeartbeats 4000000 in
set_option maxRecDepth 100000 in
theorem c_X6_whyNoRow (l : Launch) (D : va_G) (E : Nat → ClassId) (G : Nat → Nat) (a0 : Nat) (v_s : Int32) (a0_now : Nat) (a0_kept : Nat) (a0_ways : Nat) (a0_shelves : Nat) (a0_tape : Nat) (a0_reader : Nat) (a0_refusals : Nat) (a0_bestPack : Nat) (a0_shelves_held : Nat) (a0_shelves_size : Nat) (a0_shelves_cells : Nat) : Met l yX6_whyNoRow (oh_w yX6_whyNoRow cX6_whyNoRow 2 (some .int)) ({ frames := 2, cells := 0, slots := 0, locals := 42 }) (oh_Pp D E G [.ref a0, .int v_s] [(a0, .inr (6, [.ref a0_now, .ref a0_kept, .int 0, .ref a0_ways, .ref a0_shelves, .ref a0_tape, .ref a0_reader, .ref a0_refusals, .ref a0_bestPack])), (a0_shelves, .inr (3, [.ref a0_shelves_held, .ref a0_shelves_size, .ref a0_shelves_cells])), (a0_shelves_held, .inl (E 0, 8, .inl (fun _ => (-1))))]) (vp_Si (fun r => r = fX6_whyNoRow v_s)) 0 0 (fun _ => False) := by
  refine Met.ofW (cc := cX6_whyNoRow) (maxL := 2) (ret := (some .int)) (by decide) rfl ?_
  intro p e s m args below meth c s₁ B hml hv
  obtain ⟨rfl, hP, hK, hG⟩ := hv
  have hx := B.exec
  have hb := B.bytes
  have hr := B.returns
  have hts := atoms_spec (ws := (oh_w yX6_whyNoRow cX6_whyNoRow 2 (some .int))) B.pre
  have htg : ∀ w ∈ oh_t, w.before _ s = true := fun w h => hts w (List.mem_cons_of_mem _ h)
  have hown : s.vm.findClass RX6 = some m.cls := findClass_of_methodNamed B.named
  have hlocks := B.notSynchronized
  have hS : va_S (fun _ => False) s.heap s.heap [] := va_S.rf
  have hl := lv_entry ([.ref a0, .int v_s]) (n := 2) (Nat.le_of_ble_eq_true rfl)
  rw [lg_entry_eq]
  generalize (lg_sl ([.ref a0, .int v_s]) ++ List.replicate (2 - (lg_sl ([.ref a0, .int v_s])).length) Slot.unset).toArray = ls at hl ⊢
  have hl : lv_has ls 2 [(0, .ref a0), (1, .int v_s)] := hl
  refine lv_iload_n hx hb dX6_whyNoRow_0 rfl (lv_at hl 1 rfl) ?_
  refine oh_pS (As := [.int v_s]) (rest := []) (v := fX6_within v_s 0 7) ⟨hx, hb, hml, hown, htg⟩ (c_X6_isShelf l D E G v_s) (va_cwS 1 htg (oh_gS q_290 q_291 q_66 q_292) rfl rfl rfl pdX6_isShelf ⟨Nat.le_of_ble_eq_true rfl, Nat.le_of_ble_eq_true rfl⟩) hK (hP.sub (ws' := []) [] rfl) hG hS rfl hl.1 rfl (Nat.le_of_ble_eq_true rfl) dX6_whyNoRow_1 ⟨Nat.le_of_ble_eq_true rfl, Nat.le_of_ble_eq_true rfl⟩ ?_
  refine lv_if_ne (tgt := 10) hx hb dX6_whyNoRow_4 (by decide) (fun (c_1 : ¬ ((fX6_within v_s 0 7) = 0)) => ?_) (fun (c_1 : (fX6_within v_s 0 7) = 0) => ?_)
  · refine lv_aload_n hx hb dX6_whyNoRow_10 rfl (lv_at hl 0 rfl) ?_
    refine va_get (D := D) (ci := 6) (v := .ref a0_shelves) (C := RX6) (T := TX6) (N := 9) hx hb htg ig_6 hown hK hP 0 rfl rfl 4 (by decide) (htg _ q_262) (fun _ h9 => h9) rfl dX6_whyNoRow_11 ?_
    refine lv_iload_n hx hb dX6_whyNoRow_14 rfl (lv_at hl 1 rfl) ?_
    refine oh_pV (As := [.int v_s]) (rest := []) (v := 0) ⟨hx, hb, hml, hown, htg⟩ (c_X3_holdsBridge l D E G a0_shelves v_s a0_shelves_held a0_shelves_size a0_shelves_cells (oh_win c_1 (by decide))) (cwV 1 htg (oh_gV q_312 q_313 q_314 q_70 q_315) rfl rfl rfl pdVX3_holdsBridge ⟨Nat.le_of_ble_eq_true rfl, Nat.le_of_ble_eq_true rfl⟩) hK (hP.sub (ws' := [(a0_shelves, .inr (3, [.ref a0_shelves_held, .ref a0_shelves_size, .ref a0_shelves_cells])), (a0_shelves_held, .inl (E 0, 8, .inl (fun _ => (-1))))]) [1, 2] rfl) hG hS (va_recv hK hP (ci := 3) (q0 := 1) rfl rfl) rfl hl.1 rfl (Nat.le_of_ble_eq_true rfl) dX6_whyNoRow_15 ⟨Nat.le_of_ble_eq_true rfl, Nat.le_of_ble_eq_true rfl⟩ ?_
    refine lv_if_eq (tgt := 24) hx hb dX6_whyNoRow_18 (by decide) (fun _ => ?_) (fun c => absurd (show (0 : Int32) = 0 from by decide) c)
    refine lv_aload_n hx hb dX6_whyNoRow_24 rfl (lv_at hl 0 rfl) ?_
    refine va_get (D := D) (ci := 6) (v := .ref a0_shelves) (C := RX6) (T := TX6) (N := 9) hx hb htg ig_6 hown hK hP 0 rfl rfl 4 (by decide) (htg _ q_262) (fun _ h9 => h9) rfl dX6_whyNoRow_25 ?_
    refine lv_iload_n hx hb dX6_whyNoRow_28 rfl (lv_at hl 1 rfl) ?_
    refine oh_pV (As := [.int v_s]) (rest := []) (v := 1) ⟨hx, hb, hml, hown, htg⟩ (c_X3_holdsNothing l D E G a0_shelves v_s a0_shelves_held a0_shelves_size a0_shelves_cells (oh_win c_1 (by decide))) (cwV 1 htg (oh_gV q_316 q_317 q_318 q_70 q_319) rfl rfl rfl pdVX3_holdsNothing ⟨Nat.le_of_ble_eq_true rfl, Nat.le_of_ble_eq_true rfl⟩) hK (hP.sub (ws' := [(a0_shelves, .inr (3, [.ref a0_shelves_held, .ref a0_shelves_size, .ref a0_shelves_cells])), (a0_shelves_held, .inl (E 0, 8, .inl (fun _ => (-1))))]) [1, 2] rfl) hG hS (va_recv hK hP (ci := 3) (q0 := 1) rfl rfl) rfl hl.1 rfl (Nat.le_of_ble_eq_true rfl) dX6_whyNoRow_29 ⟨Nat.le_of_ble_eq_true rfl, Nat.le_of_ble_eq_true rfl⟩ ?_
    refine lv_if_eq (tgt := 40) hx hb dX6_whyNoRow_32 (by decide) (fun c => absurd c (show ¬ ((1 : Int32) = 0) from by decide)) (fun _ => ?_)
    refine lv_bipush (v := (-4)) hx hb dX6_whyNoRow_35 (by decide) ?_
    refine lv_goto (tgt := 41) hx hb dX6_whyNoRow_37 (by decide) ?_
    exact W.iret (v := (-4)) hx hb hr (fun t ht hW => ⟨(-4), rfl, by unfold fX6_whyNoRow; rw [if_neg c_1], ht⟩) (fun q h => by cases h) dX6_whyNoRow_41
  · refine lv_bipush (v := (-2)) hx hb dX6_whyNoRow_7 (by decide) ?_
    exact W.iret (v := (-2)) hx hb hr (fun t ht hW => ⟨(-2), rfl, by unfold fX6_whyNoRow; rw [if_pos c_1], ht⟩) (fun q h => by cases h) dX6_whyNoRow_9
theorem oh_why (v : Int32) : ¬ fX6_whyNoRow v = 0 := by
  unfold fX6_whyNoRow
  split <;> decide
set_option maxHeartbeats 4000000 in
set_option maxRecDepth 100000 in
theorem c_X6_whyNotTold (l : Launch) (D : va_G) (E : Nat → ClassId) (G : Nat → Nat) (a0 : Nat) (v_w : Int32) (v_k : Int32) (v_f : Int32) (v_s : Int32) (v_n : Int32) (a0_now : Nat) (a0_kept : Nat) (a0_ways : Nat) (a0_shelves : Nat) (a0_tape : Nat) (a0_reader : Nat) (a0_refusals : Nat) (a0_bestPack : Nat) (a0_now_counts : Nat) (a0_now_roads : Nat) (a0_now_bridges : Nat) (a0_now_waggons : Nat) (a0_now_parts : Nat) (a0_now_settings : Nat) (a0_now_trip : Nat) : Met l yX6_whyNotTold (oh_w yX6_whyNotTold cX6_whyNotTold 7 (some .int)) ({ frames := 3, cells := 0, slots := 0, locals := 65 }) (oh_Pp D E G [.ref a0, .int v_w, .int v_k, .int v_f, .int v_s, .int v_n] [(a0, .inr (6, [.ref a0_now, .ref a0_kept, .int 0, .ref a0_ways, .ref a0_shelves, .ref a0_tape, .ref a0_reader, .ref a0_refusals, .ref a0_bestPack])), (a0_now, .inr (0, [.ref a0_now_counts, .ref a0_now_roads, .ref a0_now_bridges, .ref a0_now_waggons, .ref a0_now_parts, .ref a0_now_settings, .ref a0_now_trip, .int 0])), (a0_now_counts, .inl (E 0, 4, .inl (fun _ => 0)))]) (vp_Si (fun r => r = (-2))) 0 0 (fun _ => False) := by
  refine Met.ofW (cc := cX6_whyNotTold) (maxL := 7) (ret := (some .int)) (by decide) rfl ?_
  intro p e s m args below meth c s₁ B hml hv
  obtain ⟨rfl, hP, hK, hG⟩ := hv
  have hx := B.exec
  have hb := B.bytes
  have hr := B.returns
  have hts := atoms_spec (ws := (oh_w yX6_whyNotTold cX6_whyNotTold 7 (some .int))) B.pre
  have htg : ∀ w ∈ oh_t, w.before _ s = true := fun w h => hts w (List.mem_cons_of_mem _ h)
  have hown : s.vm.findClass RX6 = some m.cls := findClass_of_methodNamed B.named
  have hlocks := B.notSynchronized
  have hS : va_S (fun _ => False) s.heap s.heap [] := va_S.rf
  have hl := lv_entry ([.ref a0, .int v_w, .int v_k, .int v_f, .int v_s, .int v_n]) (n := 7) (Nat.le_of_ble_eq_true rfl)
  rw [lg_entry_eq]
  generalize (lg_sl ([.ref a0, .int v_w, .int v_k, .int v_f, .int v_s, .int v_n]) ++ List.replicate (7 - (lg_sl ([.ref a0, .int v_w, .int v_k, .int v_f, .int v_s, .int v_n])).length) Slot.unset).toArray = ls at hl ⊢
  have hl : lv_has ls 7 [(0, .ref a0), (1, .int v_w), (2, .int v_k), (3, .int v_f), (4, .int v_s), (5, .int v_n)] := hl
  refine lv_aload_n hx hb dX6_whyNotTold_0 rfl (lv_at hl 0 rfl) ?_
  refine lv_iload_n hx hb dX6_whyNotTold_1 rfl (lv_at hl 1 rfl) ?_
  refine lv_iload_n hx hb dX6_whyNotTold_2 rfl (lv_at hl 2 rfl) ?_
  refine oh_pV (As := [.int v_w, .int v_k]) (rest := []) (v := 0) ⟨hx, hb, hml, hown, htg⟩ (c_X6_isPack l D E G a0 v_w v_k a0_now a0_kept a0_ways a0_shelves a0_tape a0_reader a0_refusals a0_bestPack a0_now_counts a0_now_roads a0_now_bridges a0_now_waggons a0_now_parts a0_now_settings a0_now_trip) (cwV 2 htg (oh_gV q_695 q_697 q_16 q_66 q_698) rfl rfl rfl pdVX6_isPack ⟨Nat.le_of_ble_eq_true rfl, Nat.le_of_ble_eq_true rfl⟩) hK (hP.sub (ws' := [(a0, .inr (6, [.ref a0_now, .ref a0_kept, .int 0, .ref a0_ways, .ref a0_shelves, .ref a0_tape, .ref a0_reader, .ref a0_refusals, .ref a0_bestPack])), (a0_now, .inr (0, [.ref a0_now_counts, .ref a0_now_roads, .ref a0_now_bridges, .ref a0_now_waggons, .ref a0_now_parts, .ref a0_now_settings, .ref a0_now_trip, .int 0])), (a0_now_counts, .inl (E 0, 4, .inl (fun _ => 0)))]) [0, 1, 2] rfl) hG hS (va_recv hK hP (ci := 6) (q0 := 0) rfl rfl) rfl hl.1 rfl (Nat.le_of_ble_eq_true rfl) dX6_whyNotTold_3 ⟨Nat.le_of_ble_eq_true rfl, Nat.le_of_ble_eq_true rfl⟩ ?_
  refine lv_if_eq (tgt := 35) hx hb dX6_whyNotTold_6 (by decide) (fun _ => ?_) (fun c => absurd (show (0 : Int32) = 0 from by decide) c)
  refine lv_bipush (v := (-2)) hx hb dX6_whyNotTold_35 (by decide) ?_
  exact W.iret (v := (-2)) hx hb hr (fun t ht hW => ⟨(-2), rfl, rfl, ht⟩) (fun q h => by cases h) dX6_whyNotTold_37
set_option maxHeartbeats 4000000 in
set_option maxRecDepth 100000 in
theorem c_X6_set (l : Launch) (D : va_G) (E : Nat → ClassId) (G : Nat → Nat) (sz : Nat) (a0 : Nat) (v_a : Int32) (v_b : Int32) (v_c : Int64) (a0_now : Nat) (a0_kept : Nat) (a0_ways : Nat) (a0_shelves : Nat) (a0_tape : Nat) (a0_reader : Nat) (a0_refusals : Nat) (a0_bestPack : Nat) (a0_shelves_held : Nat) (a0_shelves_size : Nat) (a0_shelves_cells : Nat) : Met l yX6_set (oh_w yX6_set cX6_set 6 (some .int)) ({ frames := 3, cells := 0, slots := 0, locals := 63 }) (oh_Pm D E G [.ref a0, .int v_a, .int v_b, .long v_c] [(a0, .inr (6, [.ref a0_now, .ref a0_kept, .int 0, .ref a0_ways, .ref a0_shelves, .ref a0_tape, .ref a0_reader, .ref a0_refusals, .ref a0_bestPack])), (a0_shelves, .inr (3, [.ref a0_shelves_held, .ref a0_shelves_size, .ref a0_shelves_cells])), (a0_shelves_held, .inl (E 0, 8, .inl (fun _ => (-1)))), (a0_refusals, .inl (E 0, 5, .inl (fun _ => 0)))] sz) (va_Qi (fun r (_ : Unit) => r = (fX6_whyNoRow v_a)) (oh_B D (va_A [(a0, .inr (6, [.ref a0_now, .ref a0_kept, .int 0, .ref a0_ways, .ref a0_shelves, .ref a0_tape, .ref a0_reader, .ref a0_refusals, .ref a0_bestPack])), (a0_shelves, .inr (3, [.ref a0_shelves_held, .ref a0_shelves_size, .ref a0_shelves_cells])), (a0_shelves_held, .inl (E 0, 8, .inl (fun _ => (-1)))), (a0_refusals, .inl (E 0, 5, .inl (fun _ => 0)))] sz) (fun _ => [])) (va_A [(a0, .inr (6, [.ref a0_now, .ref a0_kept, .int 0, .ref a0_ways, .ref a0_shelves, .ref a0_tape, .ref a0_reader, .ref a0_refusals, .ref a0_bestPack])), (a0_shelves, .inr (3, [.ref a0_shelves_held, .ref a0_shelves_size, .ref a0_shelves_cells])), (a0_shelves_held, .inl (E 0, 8, .inl (fun _ => (-1)))), (a0_refusals, .inl (E 0, 5, .inl (fun _ => 0)))] sz)) 0 0 (va_A [(a0, .inr (6, [.ref a0_now, .ref a0_kept, .int 0, .ref a0_ways, .ref a0_shelves, .ref a0_tape, .ref a0_reader, .ref a0_refusals, .ref a0_bestPack])), (a0_shelves, .inr (3, [.ref a0_shelves_held, .ref a0_shelves_size, .ref a0_shelves_cells])), (a0_shelves_held, .inl (E 0, 8, .inl (fun _ => (-1)))), (a0_refusals, .inl (E 0, 5, .inl (fun _ => 0)))] sz) := by
  refine Met.ofW (cc := cX6_set) (maxL := 6) (ret := (some .int)) (by decide) rfl ?_
  intro p e s m args below meth c s₁ B hml hv
  obtain ⟨rfl, hsz, hP, hK, hD0, hG⟩ := hv
  have hx := B.exec
  have hb := B.bytes
  have hr := B.returns
  have hts := atoms_spec (ws := (oh_w yX6_set cX6_set 6 (some .int))) B.pre
  have htg : ∀ w ∈ oh_t, w.before _ s = true := fun w h => hts w (List.mem_cons_of_mem _ h)
  have hown : s.vm.findClass RX6 = some m.cls := findClass_of_methodNamed B.named
  have hlocks := B.notSynchronized
  subst hsz
  have hD := hD0.self (sz := s.heap.size)
  generalize hAe : va_A [(a0, .inr (6, [.ref a0_now, .ref a0_kept, .int 0, .ref a0_ways, .ref a0_shelves, .ref a0_tape, .ref a0_reader, .ref a0_refusals, .ref a0_bestPack])), (a0_shelves, .inr (3, [.ref a0_shelves_held, .ref a0_shelves_size, .ref a0_shelves_cells])), (a0_shelves_held, .inl (E 0, 8, .inl (fun _ => (-1)))), (a0_refusals, .inl (E 0, 5, .inl (fun _ => 0)))] s.heap.size = A at hD hG ⊢
  have hA : ∀ q : Nat, s.heap.size ≤ q → A q := fun q h => by rw [← hAe]; exact Or.inr h
  have hS : va_S A s.heap s.heap [] := va_S.rf
  have hP : va_P D vwCl [(a0, .inr (6, [.ref a0_now, .ref a0_kept, .int 0, .ref a0_ways, .ref a0_shelves, .ref a0_tape, .ref a0_reader, .ref a0_refusals, .ref a0_bestPack])), (a0_shelves, .inr (3, [.ref a0_shelves_held, .ref a0_shelves_size, .ref a0_shelves_cells])), (a0_shelves_held, .inl (E 0, 8, .inl (fun _ => (-1)))), (a0_refusals, .inl (E 0, 5, .inl (fun _ => 0)))] s.heap := hP
  have hl := lv_entry ([.ref a0, .int v_a, .int v_b, .long v_c]) (n := 6) (Nat.le_of_ble_eq_true rfl)
  rw [lg_entry_eq]
  generalize (lg_sl ([.ref a0, .int v_a, .int v_b, .long v_c]) ++ List.replicate (6 - (lg_sl ([.ref a0, .int v_a, .int v_b, .long v_c])).length) Slot.unset).toArray = ls at hl ⊢
  have hl : lv_has ls 6 [(0, .ref a0), (1, .int v_a), (2, .int v_b), (3, .long v_c)] := hl
  refine lv_aload_n hx hb dX6_set_0 rfl (lv_at hl 0 rfl) ?_
  refine lv_iload_n hx hb dX6_set_1 rfl (lv_at hl 1 rfl) ?_
  refine oh_pV (As := [.int v_a]) (rest := []) (v := fX6_whyNoRow v_a) ⟨hx, hb, hml, hown, htg⟩ (c_X6_whyNoRow l D E G a0 v_a a0_now a0_kept a0_ways a0_shelves a0_tape a0_reader a0_refusals a0_bestPack a0_shelves_held a0_shelves_size a0_shelves_cells) (cwV 1 htg (oh_gV q_308 q_310 q_1 q_66 q_311) rfl rfl rfl pdVX6_whyNoRow ⟨Nat.le_of_ble_eq_true rfl, Nat.le_of_ble_eq_true rfl⟩) hK (hP.sub (ws' := [(a0, .inr (6, [.ref a0_now, .ref a0_kept, .int 0, .ref a0_ways, .ref a0_shelves, .ref a0_tape, .ref a0_reader, .ref a0_refusals, .ref a0_bestPack])), (a0_shelves, .inr (3, [.ref a0_shelves_held, .ref a0_shelves_size, .ref a0_shelves_cells])), (a0_shelves_held, .inl (E 0, 8, .inl (fun _ => (-1))))]) [0, 1, 2] rfl) hG hS (va_recv hK hP (ci := 6) (q0 := 0) rfl rfl) rfl hl.1 rfl (Nat.le_of_ble_eq_true rfl) dX6_set_2 ⟨Nat.le_of_ble_eq_true rfl, Nat.le_of_ble_eq_true rfl⟩ ?_
  refine lv_istore (lv' := [(5, .int (fX6_whyNoRow v_a)), (0, .ref a0), (1, .int v_a), (2, .int v_b), (3, .long v_c)]) hx hb dX6_set_5 hl (by decide) rfl (fun ls hl => ?_)
  refine lv_iload hx hb dX6_set_7 (lv_at hl 0 rfl) ?_
  refine lv_if_eq (tgt := 19) hx hb dX6_set_9 (by decide) (fun c => absurd c (show ¬ ((fX6_whyNoRow v_a) = 0) from oh_why v_a)) (fun _ => ?_)
  refine lv_aload_n hx hb dX6_set_12 rfl (lv_at hl 1 rfl) ?_
  refine lv_iload hx hb dX6_set_13 (lv_at hl 0 rfl) ?_
  refine oh_mV (As := [.int (fX6_whyNoRow v_a)]) (rest := []) (wr := [(a0_shelves, .inr (3, [.ref a0_shelves_held, .ref a0_shelves_size, .ref a0_shelves_cells])), (a0_shelves_held, .inl (E 0, 8, .inl (fun _ => (-1))))]) ⟨hx, hb, hml, hown, htg⟩ (c_X6_refuse l D E G s.heap.size a0 (fX6_whyNoRow v_a) a0_now a0_kept a0_ways a0_shelves a0_tape a0_reader a0_refusals a0_bestPack) (cwV 1 htg (oh_gV q_296 q_298 q_0 q_66 q_299) rfl rfl rfl pdVX6_refuse ⟨Nat.le_of_ble_eq_true rfl, Nat.le_of_ble_eq_true rfl⟩) hK hP hD hG hS hA [0, 3] [1, 2] rfl rfl (by decide) (by decide) (by decide) (va_recv hK hP (ci := 6) (q0 := 0) rfl rfl) rfl hl.1 rfl (Nat.le_of_ble_eq_true rfl) dX6_set_15 ⟨Nat.le_of_ble_eq_true rfl, Nat.le_of_ble_eq_true rfl⟩ (fun r_1 u H locs hw hP hD hS => ?_)
  subst hw
  have hP : va_P D vwCl [(a0_shelves, .inr (3, [.ref a0_shelves_held, .ref a0_shelves_size, .ref a0_shelves_cells])), (a0_shelves_held, .inl (E 0, 8, .inl (fun _ => (-1)))), (a0, .inr (6, [.ref a0_now, .ref a0_kept, .int 0, .ref a0_ways, .ref a0_shelves, .ref a0_tape, .ref a0_reader, .ref a0_refusals, .ref a0_bestPack]))] H := hP
  have hD : va_D A [(a0_shelves, .inr (3, [.ref a0_shelves_held, .ref a0_shelves_size, .ref a0_shelves_cells])), (a0_shelves_held, .inl (E 0, 8, .inl (fun _ => (-1)))), (a0, .inr (6, [.ref a0_now, .ref a0_kept, .int 0, .ref a0_ways, .ref a0_shelves, .ref a0_tape, .ref a0_reader, .ref a0_refusals, .ref a0_bestPack]))] := hD
  refine W.widen (k := 0) (n := 0) (Nat.le_refl _) (Nat.le_refl _) ?_
  refine W.widen (k := 0) (n := 0) (Nat.le_of_ble_eq_true rfl) (Nat.le_of_ble_eq_true rfl) ?_
  exact W.iret (v := (fX6_whyNoRow v_a)) hx hb hr (fun t ht hW => ⟨⟨(fX6_whyNoRow v_a), (), rfl, rfl, ⟨by rw [ht]; exact hP.sub [] rfl, hD.sub [] (by decide) rfl⟩⟩, hS.F ht⟩) hS.2.2 dX6_set_18
def fX6_copy (v_a : Int32) (v_b : Int32) (v_c : Int32) (v_d : Int32) (v_e : Int32) : Int32 :=
  if (fX6_within v_a 0 7) = 0 then (-2) else if (fX6_within v_b 0 7) = 0 then (-2) else (-4)
set_option maxHeartbeats 4000000 in
set_option maxRecDepth 100000 in
theorem c_X6_copy (l : Launch) (D : va_G) (E : Nat → ClassId) (G : Nat → Nat) (sz : Nat) (a0 : Nat) (v_a : Int32) (v_b : Int32) (v_c : Int32) (v_d : Int32) (v_e : Int32) (a0_now : Nat) (a0_kept : Nat) (a0_ways : Nat) (a0_shelves : Nat) (a0_tape : Nat) (a0_reader : Nat) (a0_refusals : Nat) (a0_bestPack : Nat) (a0_shelves_held : Nat) (a0_shelves_size : Nat) (a0_shelves_cells : Nat) : Met l yX6_copy (oh_w yX6_copy cX6_copy 6 (some .int)) ({ frames := 3, cells := 0, slots := 0, locals := 64 }) (oh_Pm D E G [.ref a0, .int v_a, .int v_b, .int v_c, .int v_d, .int v_e] [(a0, .inr (6, [.ref a0_now, .ref a0_kept, .int 0, .ref a0_ways, .ref a0_shelves, .ref a0_tape, .ref a0_reader, .ref a0_refusals, .ref a0_bestPack])), (a0_shelves, .inr (3, [.ref a0_shelves_held, .ref a0_shelves_size, .ref a0_shelves_cells])), (a0_shelves_held, .inl (E 0, 8, .inl (fun _ => (-1)))), (a0_refusals, .inl (E 0, 5, .inl (fun _ => 0)))] sz) (va_Qi (fun r (_ : Unit) => r = fX6_copy v_a v_b v_c v_d v_e) (oh_B D (va_A [(a0, .inr (6, [.ref a0_now, .ref a0_kept, .int 0, .ref a0_ways, .ref a0_shelves, .ref a0_tape, .ref a0_reader, .ref a0_refusals, .ref a0_bestPack])), (a0_shelves, .inr (3, [.ref a0_shelves_held, .ref a0_shelves_size, .ref a0_shelves_cells])), (a0_shelves_held, .inl (E 0, 8, .inl (fun _ => (-1)))), (a0_refusals, .inl (E 0, 5, .inl (fun _ => 0)))] sz) (fun _ => [])) (va_A [(a0, .inr (6, [.ref a0_now, .ref a0_kept, .int 0, .ref a0_ways, .ref a0_shelves, .ref a0_tape, .ref a0_reader, .ref a0_refusals, .ref a0_bestPack])), (a0_shelves, .inr (3, [.ref a0_shelves_held, .ref a0_shelves_size, .ref a0_shelves_cells])), (a0_shelves_held, .inl (E 0, 8, .inl (fun _ => (-1)))), (a0_refusals, .inl (E 0, 5, .inl (fun _ => 0)))] sz)) 0 0 (va_A [(a0, .inr (6, [.ref a0_now, .ref a0_kept, .int 0, .ref a0_ways, .ref a0_shelves, .ref a0_tape, .ref a0_reader, .ref a0_refusals, .ref a0_bestPack])), (a0_shelves, .inr (3, [.ref a0_shelves_held, .ref a0_shelves_size, .ref a0_shelves_cells])), (a0_shelves_held, .inl (E 0, 8, .inl (fun _ => (-1)))), (a0_refusals, .inl (E 0, 5, .inl (fun _ => 0)))] sz) := by
  refine Met.ofW (cc := cX6_copy) (maxL := 6) (ret := (some .int)) (by decide) rfl ?_
  intro p e s m args below meth c s₁ B hml hv
  obtain ⟨rfl, hsz, hP, hK, hD0, hG⟩ := hv
  have hx := B.exec
  have hb := B.bytes
  have hr := B.returns
  have hts := atoms_spec (ws := (oh_w yX6_copy cX6_copy 6 (some .int))) B.pre
  have htg : ∀ w ∈ oh_t, w.before _ s = true := fun w h => hts w (List.mem_cons_of_mem _ h)
  have hown : s.vm.findClass RX6 = some m.cls := findClass_of_methodNamed B.named
  have hlocks := B.notSynchronized
  subst hsz
  have hD := hD0.self (sz := s.heap.size)
  generalize hAe : va_A [(a0, .inr (6, [.ref a0_now, .ref a0_kept, .int 0, .ref a0_ways, .ref a0_shelves, .ref a0_tape, .ref a0_reader, .ref a0_refusals, .ref a0_bestPack])), (a0_shelves, .inr (3, [.ref a0_shelves_held, .ref a0_shelves_size, .ref a0_shelves_cells])), (a0_shelves_held, .inl (E 0, 8, .inl (fun _ => (-1)))), (a0_refusals, .inl (E 0, 5, .inl (fun _ => 0)))] s.heap.size = A at hD hG ⊢
  have hA : ∀ q : Nat, s.heap.size ≤ q → A q := fun q h => by rw [← hAe]; exact Or.inr h
  have hS : va_S A s.heap s.heap [] := va_S.rf
  have hP : va_P D vwCl [(a0, .inr (6, [.ref a0_now, .ref a0_kept, .int 0, .ref a0_ways, .ref a0_shelves, .ref a0_tape, .ref a0_reader, .ref a0_refusals, .ref a0_bestPack])), (a0_shelves, .inr (3, [.ref a0_shelves_held, .ref a0_shelves_size, .ref a0_shelves_cells])), (a0_shelves_held, .inl (E 0, 8, .inl (fun _ => (-1)))), (a0_refusals, .inl (E 0, 5, .inl (fun _ => 0)))] s.heap := hP
  have hl := lv_entry ([.ref a0, .int v_a, .int v_b, .int v_c, .int v_d, .int v_e]) (n := 6) (Nat.le_of_ble_eq_true rfl)
  rw [lg_entry_eq]
  generalize (lg_sl ([.ref a0, .int v_a, .int v_b, .int v_c, .int v_d, .int v_e]) ++ List.replicate (6 - (lg_sl ([.ref a0, .int v_a, .int v_b, .int v_c, .int v_d, .int v_e])).length) Slot.unset).toArray = ls at hl ⊢
  have hl : lv_has ls 6 [(0, .ref a0), (1, .int v_a), (2, .int v_b), (3, .int v_c), (4, .int v_d), (5, .int v_e)] := hl
  refine lv_iload_n hx hb dX6_copy_0 rfl (lv_at hl 1 rfl) ?_
  refine oh_pS (As := [.int v_a]) (rest := []) (v := fX6_within v_a 0 7) ⟨hx, hb, hml, hown, htg⟩ (c_X6_isShelf l D E G v_a) (va_cwS 1 htg (oh_gS q_290 q_291 q_66 q_292) rfl rfl rfl pdX6_isShelf ⟨Nat.le_of_ble_eq_true rfl, Nat.le_of_ble_eq_true rfl⟩) hK (hP.sub (ws' := []) [] rfl) hG hS rfl hl.1 rfl (Nat.le_of_ble_eq_true rfl) dX6_copy_1 ⟨Nat.le_of_ble_eq_true rfl, Nat.le_of_ble_eq_true rfl⟩ ?_
  refine lv_if_eq (tgt := 14) hx hb dX6_copy_4 (by decide) (fun (c_1 : (fX6_within v_a 0 7) = 0) => ?_) (fun (c_1 : ¬ ((fX6_within v_a 0 7) = 0)) => ?_)
  · refine lv_aload_n hx hb dX6_copy_14 rfl (lv_at hl 0 rfl) ?_
    refine lv_bipush (v := (-2)) hx hb dX6_copy_15 (by decide) ?_
    refine oh_mV (As := [.int (-2)]) (rest := []) (wr := [(a0_shelves, .inr (3, [.ref a0_shelves_held, .ref a0_shelves_size, .ref a0_shelves_cells])), (a0_shelves_held, .inl (E 0, 8, .inl (fun _ => (-1))))]) ⟨hx, hb, hml, hown, htg⟩ (c_X6_refuse l D E G s.heap.size a0 (-2) a0_now a0_kept a0_ways a0_shelves a0_tape a0_reader a0_refusals a0_bestPack) (cwV 1 htg (oh_gV q_296 q_298 q_0 q_66 q_299) rfl rfl rfl pdVX6_refuse ⟨Nat.le_of_ble_eq_true rfl, Nat.le_of_ble_eq_true rfl⟩) hK hP hD hG hS hA [0, 3] [1, 2] rfl rfl (by decide) (by decide) (by decide) (va_recv hK hP (ci := 6) (q0 := 0) rfl rfl) rfl hl.1 rfl (Nat.le_of_ble_eq_true rfl) dX6_copy_17 ⟨Nat.le_of_ble_eq_true rfl, Nat.le_of_ble_eq_true rfl⟩ (fun r_1 u H locs hw hP hD hS => ?_)
    subst hw
    have hP : va_P D vwCl [(a0_shelves, .inr (3, [.ref a0_shelves_held, .ref a0_shelves_size, .ref a0_shelves_cells])), (a0_shelves_held, .inl (E 0, 8, .inl (fun _ => (-1)))), (a0, .inr (6, [.ref a0_now, .ref a0_kept, .int 0, .ref a0_ways, .ref a0_shelves, .ref a0_tape, .ref a0_reader, .ref a0_refusals, .ref a0_bestPack]))] H := hP
    have hD : va_D A [(a0_shelves, .inr (3, [.ref a0_shelves_held, .ref a0_shelves_size, .ref a0_shelves_cells])), (a0_shelves_held, .inl (E 0, 8, .inl (fun _ => (-1)))), (a0, .inr (6, [.ref a0_now, .ref a0_kept, .int 0, .ref a0_ways, .ref a0_shelves, .ref a0_tape, .ref a0_reader, .ref a0_refusals, .ref a0_bestPack]))] := hD
    refine W.widen (k := 0) (n := 0) (Nat.le_refl _) (Nat.le_refl _) ?_
    refine W.widen (k := 0) (n := 0) (Nat.le_of_ble_eq_true rfl) (Nat.le_of_ble_eq_true rfl) ?_
    exact W.iret (v := (-2)) hx hb hr (fun t ht hW => ⟨⟨(-2), (), rfl, by unfold fX6_copy; rw [if_pos c_1], ⟨by rw [ht]; exact hP.sub [] rfl, hD.sub [] (by decide) rfl⟩⟩, hS.F ht⟩) hS.2.2 dX6_copy_20
  · refine lv_iload_n hx hb dX6_copy_7 rfl (lv_at hl 2 rfl) ?_
    refine oh_pS (As := [.int v_b]) (rest := []) (v := fX6_within v_b 0 7) ⟨hx, hb, hml, hown, htg⟩ (c_X6_isShelf l D E G v_b) (va_cwS 1 htg (oh_gS q_290 q_291 q_66 q_292) rfl rfl rfl pdX6_isShelf ⟨Nat.le_of_ble_eq_true rfl, Nat.le_of_ble_eq_true rfl⟩) hK (hP.sub (ws' := []) [] rfl) hG hS rfl hl.1 rfl (Nat.le_of_ble_eq_true rfl) dX6_copy_8 ⟨Nat.le_of_ble_eq_true rfl, Nat.le_of_ble_eq_true rfl⟩ ?_
    refine lv_if_ne (tgt := 21) hx hb dX6_copy_11 (by decide) (fun (c_2 : ¬ ((fX6_within v_b 0 7) = 0)) => ?_) (fun (c_2 : (fX6_within v_b 0 7) = 0) => ?_)
    · refine lv_aload_n hx hb dX6_copy_21 rfl (lv_at hl 0 rfl) ?_
      refine va_get (D := D) (ci := 6) (v := .ref a0_shelves) (C := RX6) (T := TX6) (N := 9) hx hb htg ig_6 hown hK hP 0 rfl rfl 4 (by decide) (htg _ q_262) (fun _ h9 => h9) rfl dX6_copy_22 ?_
      refine lv_iload_n hx hb dX6_copy_25 rfl (lv_at hl 1 rfl) ?_
      refine oh_pV (As := [.int v_a]) (rest := []) (v := 0) ⟨hx, hb, hml, hown, htg⟩ (c_X3_holdsBridge l D E G a0_shelves v_a a0_shelves_held a0_shelves_size a0_shelves_cells (oh_win c_1 (by decide))) (cwV 1 htg (oh_gV q_312 q_313 q_314 q_70 q_315) rfl rfl rfl pdVX3_holdsBridge ⟨Nat.le_of_ble_eq_true rfl, Nat.le_of_ble_eq_true rfl⟩) hK (hP.sub (ws' := [(a0_shelves, .inr (3, [.ref a0_shelves_held, .ref a0_shelves_size, .ref a0_shelves_cells])), (a0_shelves_held, .inl (E 0, 8, .inl (fun _ => (-1))))]) [1, 2] rfl) hG hS (va_recv hK hP (ci := 3) (q0 := 1) rfl rfl) rfl hl.1 rfl (Nat.le_of_ble_eq_true rfl) dX6_copy_26 ⟨Nat.le_of_ble_eq_true rfl, Nat.le_of_ble_eq_true rfl⟩ ?_
      refine lv_if_ne (tgt := 55) hx hb dX6_copy_29 (by decide) (fun c => absurd (show (0 : Int32) = 0 from by decide) c) (fun _ => ?_)
      refine lv_aload_n hx hb dX6_copy_32 rfl (lv_at hl 0 rfl) ?_
      refine va_get (D := D) (ci := 6) (v := .ref a0_shelves) (C := RX6) (T := TX6) (N := 9) hx hb htg ig_6 hown hK hP 0 rfl rfl 4 (by decide) (htg _ q_262) (fun _ h9 => h9) rfl dX6_copy_33 ?_
      refine lv_iload_n hx hb dX6_copy_36 rfl (lv_at hl 2 rfl) ?_
      refine oh_pV (As := [.int v_b]) (rest := []) (v := 0) ⟨hx, hb, hml, hown, htg⟩ (c_X3_holdsBridge l D E G a0_shelves v_b a0_shelves_held a0_shelves_size a0_shelves_cells (oh_win c_2 (by decide))) (cwV 1 htg (oh_gV q_312 q_313 q_314 q_70 q_315) rfl rfl rfl pdVX3_holdsBridge ⟨Nat.le_of_ble_eq_true rfl, Nat.le_of_ble_eq_true rfl⟩) hK (hP.sub (ws' := [(a0_shelves, .inr (3, [.ref a0_shelves_held, .ref a0_shelves_size, .ref a0_shelves_cells])), (a0_shelves_held, .inl (E 0, 8, .inl (fun _ => (-1))))]) [1, 2] rfl) hG hS (va_recv hK hP (ci := 3) (q0 := 1) rfl rfl) rfl hl.1 rfl (Nat.le_of_ble_eq_true rfl) dX6_copy_37 ⟨Nat.le_of_ble_eq_true rfl, Nat.le_of_ble_eq_true rfl⟩ ?_
      refine lv_if_ne (tgt := 55) hx hb dX6_copy_40 (by decide) (fun c => absurd (show (0 : Int32) = 0 from by decide) c) (fun _ => ?_)
      refine lv_aload_n hx hb dX6_copy_43 rfl (lv_at hl 0 rfl) ?_
      refine va_get (D := D) (ci := 6) (v := .ref a0_shelves) (C := RX6) (T := TX6) (N := 9) hx hb htg ig_6 hown hK hP 0 rfl rfl 4 (by decide) (htg _ q_262) (fun _ h9 => h9) rfl dX6_copy_44 ?_
      refine lv_iload_n hx hb dX6_copy_47 rfl (lv_at hl 1 rfl) ?_
      refine lv_iload_n hx hb dX6_copy_48 rfl (lv_at hl 2 rfl) ?_
      refine oh_pV (As := [.int v_a, .int v_b]) (rest := []) (v := 0) ⟨hx, hb, hml, hown, htg⟩ (c_X3_holdsUnlikeRows l D E G a0_shelves v_a v_b a0_shelves_held a0_shelves_size a0_shelves_cells (oh_win c_1 (by decide)) (oh_win c_2 (by decide))) (cwV 2 htg (oh_gV q_331 q_332 q_333 q_70 q_334) rfl rfl rfl pdVX3_holdsUnlikeRows ⟨Nat.le_of_ble_eq_true rfl, Nat.le_of_ble_eq_true rfl⟩) hK (hP.sub (ws' := [(a0_shelves, .inr (3, [.ref a0_shelves_held, .ref a0_shelves_size, .ref a0_shelves_cells])), (a0_shelves_held, .inl (E 0, 8, .inl (fun _ => (-1))))]) [1, 2] rfl) hG hS (va_recv hK hP (ci := 3) (q0 := 1) rfl rfl) rfl hl.1 rfl (Nat.le_of_ble_eq_true rfl) dX6_copy_49 ⟨Nat.le_of_ble_eq_true rfl, Nat.le_of_ble_eq_true rfl⟩ ?_
      refine lv_if_eq (tgt := 62) hx hb dX6_copy_52 (by decide) (fun _ => ?_) (fun c => absurd (show (0 : Int32) = 0 from by decide) c)
      refine lv_aload_n hx hb dX6_copy_62 rfl (lv_at hl 0 rfl) ?_
      refine va_get (D := D) (ci := 6) (v := .ref a0_shelves) (C := RX6) (T := TX6) (N := 9) hx hb htg ig_6 hown hK hP 0 rfl rfl 4 (by decide) (htg _ q_262) (fun _ h9 => h9) rfl dX6_copy_63 ?_
      refine lv_iload_n hx hb dX6_copy_66 rfl (lv_at hl 1 rfl) ?_
      refine oh_pV (As := [.int v_a]) (rest := []) (v := 1) ⟨hx, hb, hml, hown, htg⟩ (c_X3_holdsNothing l D E G a0_shelves v_a a0_shelves_held a0_shelves_size a0_shelves_cells (oh_win c_1 (by decide))) (cwV 1 htg (oh_gV q_316 q_317 q_318 q_70 q_319) rfl rfl rfl pdVX3_holdsNothing ⟨Nat.le_of_ble_eq_true rfl, Nat.le_of_ble_eq_true rfl⟩) hK (hP.sub (ws' := [(a0_shelves, .inr (3, [.ref a0_shelves_held, .ref a0_shelves_size, .ref a0_shelves_cells])), (a0_shelves_held, .inl (E 0, 8, .inl (fun _ => (-1))))]) [1, 2] rfl) hG hS (va_recv hK hP (ci := 3) (q0 := 1) rfl rfl) rfl hl.1 rfl (Nat.le_of_ble_eq_true rfl) dX6_copy_67 ⟨Nat.le_of_ble_eq_true rfl, Nat.le_of_ble_eq_true rfl⟩ ?_
      refine lv_if_ne (tgt := 84) hx hb dX6_copy_70 (by decide) (fun _ => ?_) (fun c => absurd c (show ¬ ((1 : Int32) = 0) from by decide))
      refine lv_aload_n hx hb dX6_copy_84 rfl (lv_at hl 0 rfl) ?_
      refine lv_bipush (v := (-4)) hx hb dX6_copy_85 (by decide) ?_
      refine oh_mV (As := [.int (-4)]) (rest := []) (wr := [(a0_shelves, .inr (3, [.ref a0_shelves_held, .ref a0_shelves_size, .ref a0_shelves_cells])), (a0_shelves_held, .inl (E 0, 8, .inl (fun _ => (-1))))]) ⟨hx, hb, hml, hown, htg⟩ (c_X6_refuse l D E G s.heap.size a0 (-4) a0_now a0_kept a0_ways a0_shelves a0_tape a0_reader a0_refusals a0_bestPack) (cwV 1 htg (oh_gV q_296 q_298 q_0 q_66 q_299) rfl rfl rfl pdVX6_refuse ⟨Nat.le_of_ble_eq_true rfl, Nat.le_of_ble_eq_true rfl⟩) hK hP hD hG hS hA [0, 3] [1, 2] rfl rfl (by decide) (by decide) (by decide) (va_recv hK hP (ci := 6) (q0 := 0) rfl rfl) rfl hl.1 rfl (Nat.le_of_ble_eq_true rfl) dX6_copy_87 ⟨Nat.le_of_ble_eq_true rfl, Nat.le_of_ble_eq_true rfl⟩ (fun r_2 u H locs hw hP hD hS => ?_)
      subst hw
      have hP : va_P D vwCl [(a0_shelves, .inr (3, [.ref a0_shelves_held, .ref a0_shelves_size, .ref a0_shelves_cells])), (a0_shelves_held, .inl (E 0, 8, .inl (fun _ => (-1)))), (a0, .inr (6, [.ref a0_now, .ref a0_kept, .int 0, .ref a0_ways, .ref a0_shelves, .ref a0_tape, .ref a0_reader, .ref a0_refusals, .ref a0_bestPack]))] H := hP
      have hD : va_D A [(a0_shelves, .inr (3, [.ref a0_shelves_held, .ref a0_shelves_size, .ref a0_shelves_cells])), (a0_shelves_held, .inl (E 0, 8, .inl (fun _ => (-1)))), (a0, .inr (6, [.ref a0_now, .ref a0_kept, .int 0, .ref a0_ways, .ref a0_shelves, .ref a0_tape, .ref a0_reader, .ref a0_refusals, .ref a0_bestPack]))] := hD
      refine W.widen (k := 0) (n := 0) (Nat.le_refl _) (Nat.le_refl _) ?_
      refine W.widen (k := 0) (n := 0) (Nat.le_of_ble_eq_true rfl) (Nat.le_of_ble_eq_true rfl) ?_
      exact W.iret (v := (-4)) hx hb hr (fun t ht hW => ⟨⟨(-4), (), rfl, by unfold fX6_copy; rw [if_neg c_1, if_neg c_2], ⟨by rw [ht]; exact hP.sub [] rfl, hD.sub [] (by decide) rfl⟩⟩, hS.F ht⟩) hS.2.2 dX6_copy_90
    · refine lv_aload_n hx hb dX6_copy_14 rfl (lv_at hl 0 rfl) ?_
      refine lv_bipush (v := (-2)) hx hb dX6_copy_15 (by decide) ?_
      refine oh_mV (As := [.int (-2)]) (rest := []) (wr := [(a0_shelves, .inr (3, [.ref a0_shelves_held, .ref a0_shelves_size, .ref a0_shelves_cells])), (a0_shelves_held, .inl (E 0, 8, .inl (fun _ => (-1))))]) ⟨hx, hb, hml, hown, htg⟩ (c_X6_refuse l D E G s.heap.size a0 (-2) a0_now a0_kept a0_ways a0_shelves a0_tape a0_reader a0_refusals a0_bestPack) (cwV 1 htg (oh_gV q_296 q_298 q_0 q_66 q_299) rfl rfl rfl pdVX6_refuse ⟨Nat.le_of_ble_eq_true rfl, Nat.le_of_ble_eq_true rfl⟩) hK hP hD hG hS hA [0, 3] [1, 2] rfl rfl (by decide) (by decide) (by decide) (va_recv hK hP (ci := 6) (q0 := 0) rfl rfl) rfl hl.1 rfl (Nat.le_of_ble_eq_true rfl) dX6_copy_17 ⟨Nat.le_of_ble_eq_true rfl, Nat.le_of_ble_eq_true rfl⟩ (fun r_3 u H locs hw hP hD hS => ?_)
      subst hw
      have hP : va_P D vwCl [(a0_shelves, .inr (3, [.ref a0_shelves_held, .ref a0_shelves_size, .ref a0_shelves_cells])), (a0_shelves_held, .inl (E 0, 8, .inl (fun _ => (-1)))), (a0, .inr (6, [.ref a0_now, .ref a0_kept, .int 0, .ref a0_ways, .ref a0_shelves, .ref a0_tape, .ref a0_reader, .ref a0_refusals, .ref a0_bestPack]))] H := hP
      have hD : va_D A [(a0_shelves, .inr (3, [.ref a0_shelves_held, .ref a0_shelves_size, .ref a0_shelves_cells])), (a0_shelves_held, .inl (E 0, 8, .inl (fun _ => (-1)))), (a0, .inr (6, [.ref a0_now, .ref a0_kept, .int 0, .ref a0_ways, .ref a0_shelves, .ref a0_tape, .ref a0_reader, .ref a0_refusals, .ref a0_bestPack]))] := hD
      refine W.widen (k := 0) (n := 0) (Nat.le_refl _) (Nat.le_refl _) ?_
      refine W.widen (k := 0) (n := 0) (Nat.le_of_ble_eq_true rfl) (Nat.le_of_ble_eq_true rfl) ?_
      exact W.iret (v := (-2)) hx hb hr (fun t ht hW => ⟨⟨(-2), (), rfl, by unfold fX6_copy; rw [if_neg c_1, if_pos c_2], ⟨by rw [ht]; exact hP.sub [] rfl, hD.sub [] (by decide) rfl⟩⟩, hS.F ht⟩) hS.2.2 dX6_copy_20
set_option maxHeartbeats 4000000 in
set_option maxRecDepth 100000 in
theorem c_X6_element (l : Launch) (D : va_G) (E : Nat → ClassId) (G : Nat → Nat) (a0 : Nat) (v_a : Int32) (v_b : Int32) (a0_now : Nat) (a0_kept : Nat) (a0_ways : Nat) (a0_shelves : Nat) (a0_tape : Nat) (a0_reader : Nat) (a0_refusals : Nat) (a0_bestPack : Nat) (a0_shelves_held : Nat) (a0_shelves_size : Nat) (a0_shelves_cells : Nat) : Met l yX6_element (oh_w yX6_element cX6_element 3 (some .long)) ({ frames := 2, cells := 0, slots := 0, locals := 42 }) (oh_Pp D E G [.ref a0, .int v_a, .int v_b] [(a0, .inr (6, [.ref a0_now, .ref a0_kept, .int 0, .ref a0_ways, .ref a0_shelves, .ref a0_tape, .ref a0_reader, .ref a0_refusals, .ref a0_bestPack])), (a0_shelves, .inr (3, [.ref a0_shelves_held, .ref a0_shelves_size, .ref a0_shelves_cells])), (a0_shelves_held, .inl (E 0, 8, .inl (fun _ => (-1))))]) (vp_Sl (fun r => r = 0)) 0 0 (fun _ => False) := by
  refine Met.ofW (cc := cX6_element) (maxL := 3) (ret := (some .long)) (by decide) rfl ?_
  intro p e s m args below meth c s₁ B hml hv
  obtain ⟨rfl, hP, hK, hG⟩ := hv
  have hx := B.exec
  have hb := B.bytes
  have hr := B.returns
  have hts := atoms_spec (ws := (oh_w yX6_element cX6_element 3 (some .long))) B.pre
  have htg : ∀ w ∈ oh_t, w.before _ s = true := fun w h => hts w (List.mem_cons_of_mem _ h)
  have hown : s.vm.findClass RX6 = some m.cls := findClass_of_methodNamed B.named
  have hlocks := B.notSynchronized
  have hS : va_S (fun _ => False) s.heap s.heap [] := va_S.rf
  have hl := lv_entry ([.ref a0, .int v_a, .int v_b]) (n := 3) (Nat.le_of_ble_eq_true rfl)
  rw [lg_entry_eq]
  generalize (lg_sl ([.ref a0, .int v_a, .int v_b]) ++ List.replicate (3 - (lg_sl ([.ref a0, .int v_a, .int v_b])).length) Slot.unset).toArray = ls at hl ⊢
  have hl : lv_has ls 3 [(0, .ref a0), (1, .int v_a), (2, .int v_b)] := hl
  refine lv_iload_n hx hb dX6_element_0 rfl (lv_at hl 1 rfl) ?_
  refine oh_pS (As := [.int v_a]) (rest := []) (v := fX6_within v_a 0 7) ⟨hx, hb, hml, hown, htg⟩ (c_X6_isShelf l D E G v_a) (va_cwS 1 htg (oh_gS q_290 q_291 q_66 q_292) rfl rfl rfl pdX6_isShelf ⟨Nat.le_of_ble_eq_true rfl, Nat.le_of_ble_eq_true rfl⟩) hK (hP.sub (ws' := []) [] rfl) hG hS rfl hl.1 rfl (Nat.le_of_ble_eq_true rfl) dX6_element_1 ⟨Nat.le_of_ble_eq_true rfl, Nat.le_of_ble_eq_true rfl⟩ ?_
  refine lv_if_eq (tgt := 18) hx hb dX6_element_4 (by decide) (fun (c_1 : (fX6_within v_a 0 7) = 0) => ?_) (fun (c_1 : ¬ ((fX6_within v_a 0 7) = 0)) => ?_)
  · refine lv_lconst (v := 0) hx hb dX6_element_18 (by decide) ?_
    exact W.lret (v := 0) hx hb hr (fun t ht hW => ⟨0, rfl, rfl, ht⟩) (fun q h => by cases h) dX6_element_19
  · refine lv_aload_n hx hb dX6_element_7 rfl (lv_at hl 0 rfl) ?_
    refine va_get (D := D) (ci := 6) (v := .ref a0_shelves) (C := RX6) (T := TX6) (N := 9) hx hb htg ig_6 hown hK hP 0 rfl rfl 4 (by decide) (htg _ q_262) (fun _ h9 => h9) rfl dX6_element_8 ?_
    refine lv_iload_n hx hb dX6_element_11 rfl (lv_at hl 1 rfl) ?_
    refine oh_pV (As := [.int v_a]) (rest := []) (v := 0) ⟨hx, hb, hml, hown, htg⟩ (c_X3_holdsRow l D E G a0_shelves v_a a0_shelves_held a0_shelves_size a0_shelves_cells (oh_win c_1 (by decide))) (cwV 1 htg (oh_gV q_352 q_336 q_337 q_70 q_338) rfl rfl rfl pdVX3_holdsRow ⟨Nat.le_of_ble_eq_true rfl, Nat.le_of_ble_eq_true rfl⟩) hK (hP.sub (ws' := [(a0_shelves, .inr (3, [.ref a0_shelves_held, .ref a0_shelves_size, .ref a0_shelves_cells])), (a0_shelves_held, .inl (E 0, 8, .inl (fun _ => (-1))))]) [1, 2] rfl) hG hS (va_recv hK hP (ci := 3) (q0 := 1) rfl rfl) rfl hl.1 rfl (Nat.le_of_ble_eq_true rfl) dX6_element_12 ⟨Nat.le_of_ble_eq_true rfl, Nat.le_of_ble_eq_true rfl⟩ ?_
    refine lv_if_ne (tgt := 20) hx hb dX6_element_15 (by decide) (fun c => absurd (show (0 : Int32) = 0 from by decide) c) (fun _ => ?_)
    refine lv_lconst (v := 0) hx hb dX6_element_18 (by decide) ?_
    exact W.lret (v := 0) hx hb hr (fun t ht hW => ⟨0, rfl, rfl, ht⟩) (fun q h => by cases h) dX6_element_19
end
section
set_option maxHeartbeats 4000000 in
set_option maxRecDepth 100000 in
theorem c_X6_holds (l : Launch) (D : va_G) (E : Nat → ClassId) (G : Nat → Nat) (a0 : Nat) (v_a : Int32) (a0_now : Nat) (a0_kept : Nat) (a0_ways : Nat) (a0_shelves : Nat) (a0_tape : Nat) (a0_reader : Nat) (a0_refusals : Nat) (a0_bestPack : Nat) (a0_shelves_held : Nat) (a0_shelves_size : Nat) (a0_shelves_cells : Nat) : Met l yX6_holds (oh_w yX6_holds cX6_holds 2 (some .int)) ({ frames := 2, cells := 0, slots := 0, locals := 42 }) (oh_Pp D E G [.ref a0, .int v_a] [(a0, .inr (6, [.ref a0_now, .ref a0_kept, .int 0, .ref a0_ways, .ref a0_shelves, .ref a0_tape, .ref a0_reader, .ref a0_refusals, .ref a0_bestPack])), (a0_shelves, .inr (3, [.ref a0_shelves_held, .ref a0_shelves_size, .ref a0_shelves_cells])), (a0_shelves_held, .inl (E 0, 8, .inl (fun _ => (-1))))]) (vp_Si (fun r => r = (-1))) 0 0 (fun _ => False) := by
  refine Met.ofW (cc := cX6_holds) (maxL := 2) (ret := (some .int)) (by decide) rfl ?_
  intro p e s m args below meth c s₁ B hml hv
  obtain ⟨rfl, hP, hK, hG⟩ := hv
  have hx := B.exec
  have hb := B.bytes
  have hr := B.returns
  have hts := atoms_spec (ws := (oh_w yX6_holds cX6_holds 2 (some .int))) B.pre
  have htg : ∀ w ∈ oh_t, w.before _ s = true := fun w h => hts w (List.mem_cons_of_mem _ h)
  have hown : s.vm.findClass RX6 = some m.cls := findClass_of_methodNamed B.named
  have hlocks := B.notSynchronized
  have hS : va_S (fun _ => False) s.heap s.heap [] := va_S.rf
  have hl := lv_entry ([.ref a0, .int v_a]) (n := 2) (Nat.le_of_ble_eq_true rfl)
  rw [lg_entry_eq]
  generalize (lg_sl ([.ref a0, .int v_a]) ++ List.replicate (2 - (lg_sl ([.ref a0, .int v_a])).length) Slot.unset).toArray = ls at hl ⊢
  have hl : lv_has ls 2 [(0, .ref a0), (1, .int v_a)] := hl
  refine lv_iload_n hx hb dX6_holds_0 rfl (lv_at hl 1 rfl) ?_
  refine oh_pS (As := [.int v_a]) (rest := []) (v := fX6_within v_a 0 7) ⟨hx, hb, hml, hown, htg⟩ (c_X6_isShelf l D E G v_a) (va_cwS 1 htg (oh_gS q_290 q_291 q_66 q_292) rfl rfl rfl pdX6_isShelf ⟨Nat.le_of_ble_eq_true rfl, Nat.le_of_ble_eq_true rfl⟩) hK (hP.sub (ws' := []) [] rfl) hG hS rfl hl.1 rfl (Nat.le_of_ble_eq_true rfl) dX6_holds_1 ⟨Nat.le_of_ble_eq_true rfl, Nat.le_of_ble_eq_true rfl⟩ ?_
  refine lv_if_eq (tgt := 19) hx hb dX6_holds_4 (by decide) (fun (c_1 : (fX6_within v_a 0 7) = 0) => ?_) (fun (c_1 : ¬ ((fX6_within v_a 0 7) = 0)) => ?_)
  · refine lv_iconst (v := (-1)) hx hb dX6_holds_19 (by decide) ?_
    exact W.iret (v := (-1)) hx hb hr (fun t ht hW => ⟨(-1), rfl, rfl, ht⟩) (fun q h => by cases h) dX6_holds_20
  · refine lv_aload_n hx hb dX6_holds_7 rfl (lv_at hl 0 rfl) ?_
    refine va_get (D := D) (ci := 6) (v := .ref a0_shelves) (C := RX6) (T := TX6) (N := 9) hx hb htg ig_6 hown hK hP 0 rfl rfl 4 (by decide) (htg _ q_262) (fun _ h9 => h9) rfl dX6_holds_8 ?_
    refine va_get (D := D) (ci := 3) (v := .ref a0_shelves_held) (C := RX3) (T := TX3) (N := 3) hx hb htg ig_3 hown hK hP 1 rfl rfl 0 (by decide) (htg _ q_199) (fun _ h9 => h9) rfl dX6_holds_11 ?_
    refine lv_iload_n hx hb dX6_holds_14 rfl (lv_at hl 1 rfl) ?_
    refine va_iald hx hb hK hP 2 0 rfl rfl (oh_win c_1 (by decide)) dX6_holds_15 ?_
    refine oh_nrm (v := (-1)) (by rfl) ?_
    refine lv_goto (tgt := 20) hx hb dX6_holds_16 (by decide) ?_
    exact W.iret (v := (-1)) hx hb hr (fun t ht hW => ⟨(-1), rfl, rfl, ht⟩) (fun q h => by cases h) dX6_holds_20
set_option maxHeartbeats 4000000 in
set_option maxRecDepth 100000 in
theorem c_X3_putBridge (l : Launch) (D : va_G) (E : Nat → ClassId) (G : Nat → Nat) (sz : Nat) (a0 : Nat) (v_s : Int32) (v_b : Int32) (a0_held : Nat) (a0_size : Nat) (a0_cells : Nat) (hs : vp_in v_s 8) : Met l yX3_putBridge (oh_w yX3_putBridge cX3_putBridge 3 none) ({ frames := 0, cells := 0, slots := 0, locals := 0 }) (oh_Pm D E G [.ref a0, .int v_s, .int v_b] [(a0, .inr (3, [.ref a0_held, .ref a0_size, .ref a0_cells])), (a0_held, .inl (E 0, 8, .inl (fun _ => (-1)))), (a0_size, .inl (E 0, 8, .inl (fun _ => 0)))] sz) (va_Qv (fun (_ : Unit) => True) (oh_B D (va_A [(a0, .inr (3, [.ref a0_held, .ref a0_size, .ref a0_cells])), (a0_held, .inl (E 0, 8, .inl (fun _ => (-1)))), (a0_size, .inl (E 0, 8, .inl (fun _ => 0)))] sz) (fun _ => [])) (va_A [(a0, .inr (3, [.ref a0_held, .ref a0_size, .ref a0_cells])), (a0_held, .inl (E 0, 8, .inl (fun _ => (-1)))), (a0_size, .inl (E 0, 8, .inl (fun _ => 0)))] sz)) 0 0 (va_A [(a0, .inr (3, [.ref a0_held, .ref a0_size, .ref a0_cells])), (a0_held, .inl (E 0, 8, .inl (fun _ => (-1)))), (a0_size, .inl (E 0, 8, .inl (fun _ => 0)))] sz) := by
  refine Met.ofW (cc := cX3_putBridge) (maxL := 3) (ret := none) (by decide) rfl ?_
  intro p e s m args below meth c s₁ B hml hv
  obtain ⟨rfl, hsz, hP, hK, hD0, hG⟩ := hv
  have hx := B.exec
  have hb := B.bytes
  have hr := B.returns
  have hts := atoms_spec (ws := (oh_w yX3_putBridge cX3_putBridge 3 none)) B.pre
  have htg : ∀ w ∈ oh_t, w.before _ s = true := fun w h => hts w (List.mem_cons_of_mem _ h)
  have hown : s.vm.findClass RX3 = some m.cls := findClass_of_methodNamed B.named
  have hlocks := B.notSynchronized
  subst hsz
  have hD := hD0.self (sz := s.heap.size)
  generalize hAe : va_A [(a0, .inr (3, [.ref a0_held, .ref a0_size, .ref a0_cells])), (a0_held, .inl (E 0, 8, .inl (fun _ => (-1)))), (a0_size, .inl (E 0, 8, .inl (fun _ => 0)))] s.heap.size = A at hD hG ⊢
  have hA : ∀ q : Nat, s.heap.size ≤ q → A q := fun q h => by rw [← hAe]; exact Or.inr h
  have hS : va_S A s.heap s.heap [] := va_S.rf
  have hP : va_P D vwCl [(a0, .inr (3, [.ref a0_held, .ref a0_size, .ref a0_cells])), (a0_held, .inl (E 0, 8, .inl (fun _ => (-1)))), (a0_size, .inl (E 0, 8, .inl (fun _ => 0)))] s.heap := hP
  have hl := lv_entry ([.ref a0, .int v_s, .int v_b]) (n := 3) (Nat.le_of_ble_eq_true rfl)
  rw [lg_entry_eq]
  generalize (lg_sl ([.ref a0, .int v_s, .int v_b]) ++ List.replicate (3 - (lg_sl ([.ref a0, .int v_s, .int v_b])).length) Slot.unset).toArray = ls at hl ⊢
  have hl : lv_has ls 3 [(0, .ref a0), (1, .int v_s), (2, .int v_b)] := hl
  refine lv_aload_n hx hb dX3_putBridge_0 rfl (lv_at hl 0 rfl) ?_
  refine va_get (D := D) (ci := 3) (v := .ref a0_held) (C := RX3) (T := TX3) (N := 3) hx hb htg ig_3 hown hK hP 0 rfl rfl 0 (by decide) (htg _ q_198) (fun _ h9 => h9) rfl dX3_putBridge_1 ?_
  refine lv_iload_n hx hb dX3_putBridge_4 rfl (lv_at hl 1 rfl) ?_
  refine lv_iload_n hx hb dX3_putBridge_5 rfl (lv_at hl 2 rfl) ?_
  refine lv_iconst (v := (-1)) hx hb dX3_putBridge_6 (by decide) ?_
  refine lv_icmp_ne (tgt := 14) hx hb dX3_putBridge_7 (by decide) (fun (c_1 : ¬ (v_b = (-1))) => ?_) (fun (c_1 : v_b = (-1)) => ?_)
  · refine lv_bipush (v := 10) hx hb dX3_putBridge_14 (by decide) ?_
    refine lv_iload_n hx hb dX3_putBridge_16 rfl (lv_at hl 2 rfl) ?_
    refine lv_iadd hx hb dX3_putBridge_17 ?_
    refine va_iast hx hb hK hP hD hS 1 0 rfl rfl hs dX3_putBridge_18 (fun H locs hP hD hS => ?_)
    have hP : va_P D vwCl [(a0, .inr (3, [.ref a0_held, .ref a0_size, .ref a0_cells])), (a0_held, .inl (E 0, 8, .inl (upd (fun _ => (-1)) ((v_s).toNatClampNeg) (10 + v_b)))), (a0_size, .inl (E 0, 8, .inl (fun _ => 0)))] H := hP
    have hD : va_D A [(a0, .inr (3, [.ref a0_held, .ref a0_size, .ref a0_cells])), (a0_held, .inl (E 0, 8, .inl (upd (fun _ => (-1)) ((v_s).toNatClampNeg) (10 + v_b)))), (a0_size, .inl (E 0, 8, .inl (fun _ => 0)))] := hD
    refine lv_aload_n hx hb dX3_putBridge_19 rfl (lv_at hl 0 rfl) ?_
    refine va_get (D := D) (ci := 3) (v := .ref a0_size) (C := RX3) (T := TX3) (N := 3) hx hb htg ig_3 hown hK hP 0 rfl rfl 1 (by decide) (htg _ q_200) (fun _ h9 => h9) rfl dX3_putBridge_20 ?_
    refine lv_iload_n hx hb dX3_putBridge_23 rfl (lv_at hl 1 rfl) ?_
    refine lv_iconst (v := 0) hx hb dX3_putBridge_24 (by decide) ?_
    refine va_iast hx hb hK hP hD hS 2 0 rfl rfl hs dX3_putBridge_25 (fun H locs hP hD hS => ?_)
    have hP : va_P D vwCl [(a0, .inr (3, [.ref a0_held, .ref a0_size, .ref a0_cells])), (a0_held, .inl (E 0, 8, .inl (upd (fun _ => (-1)) ((v_s).toNatClampNeg) (10 + v_b)))), (a0_size, .inl (E 0, 8, .inl (upd (fun _ => 0) ((v_s).toNatClampNeg) 0)))] H := hP
    have hD : va_D A [(a0, .inr (3, [.ref a0_held, .ref a0_size, .ref a0_cells])), (a0_held, .inl (E 0, 8, .inl (upd (fun _ => (-1)) ((v_s).toNatClampNeg) (10 + v_b)))), (a0_size, .inl (E 0, 8, .inl (upd (fun _ => 0) ((v_s).toNatClampNeg) 0)))] := hD
    refine W.widen (k := 0) (n := 0) (Nat.le_of_ble_eq_true rfl) (Nat.le_of_ble_eq_true rfl) ?_
    exact W.vret hx hb hr (fun t ht hW => ⟨⟨(), rfl, trivial, ⟨by rw [ht]; exact hP.sub [] rfl, hD.sub [] (by decide) rfl⟩⟩, hS.F ht⟩) hS.2.2 dX3_putBridge_26
  · refine lv_iconst (v := (-1)) hx hb dX3_putBridge_10 (by decide) ?_
    refine lv_goto (tgt := 18) hx hb dX3_putBridge_11 (by decide) ?_
    refine va_iast hx hb hK hP hD hS 1 0 rfl rfl hs dX3_putBridge_18 (fun H locs hP hD hS => ?_)
    have hP : va_P D vwCl [(a0, .inr (3, [.ref a0_held, .ref a0_size, .ref a0_cells])), (a0_held, .inl (E 0, 8, .inl (upd (fun _ => (-1)) ((v_s).toNatClampNeg) (-1)))), (a0_size, .inl (E 0, 8, .inl (fun _ => 0)))] H := hP
    have hD : va_D A [(a0, .inr (3, [.ref a0_held, .ref a0_size, .ref a0_cells])), (a0_held, .inl (E 0, 8, .inl (upd (fun _ => (-1)) ((v_s).toNatClampNeg) (-1)))), (a0_size, .inl (E 0, 8, .inl (fun _ => 0)))] := hD
    refine lv_aload_n hx hb dX3_putBridge_19 rfl (lv_at hl 0 rfl) ?_
    refine va_get (D := D) (ci := 3) (v := .ref a0_size) (C := RX3) (T := TX3) (N := 3) hx hb htg ig_3 hown hK hP 0 rfl rfl 1 (by decide) (htg _ q_200) (fun _ h9 => h9) rfl dX3_putBridge_20 ?_
    refine lv_iload_n hx hb dX3_putBridge_23 rfl (lv_at hl 1 rfl) ?_
    refine lv_iconst (v := 0) hx hb dX3_putBridge_24 (by decide) ?_
    refine va_iast hx hb hK hP hD hS 2 0 rfl rfl hs dX3_putBridge_25 (fun H locs hP hD hS => ?_)
    have hP : va_P D vwCl [(a0, .inr (3, [.ref a0_held, .ref a0_size, .ref a0_cells])), (a0_held, .inl (E 0, 8, .inl (upd (fun _ => (-1)) ((v_s).toNatClampNeg) (-1)))), (a0_size, .inl (E 0, 8, .inl (upd (fun _ => 0) ((v_s).toNatClampNeg) 0)))] H := hP
    have hD : va_D A [(a0, .inr (3, [.ref a0_held, .ref a0_size, .ref a0_cells])), (a0_held, .inl (E 0, 8, .inl (upd (fun _ => (-1)) ((v_s).toNatClampNeg) (-1)))), (a0_size, .inl (E 0, 8, .inl (upd (fun _ => 0) ((v_s).toNatClampNeg) 0)))] := hD
    refine W.widen (k := 0) (n := 0) (Nat.le_of_ble_eq_true rfl) (Nat.le_of_ble_eq_true rfl) ?_
    exact W.vret hx hb hr (fun t ht hW => ⟨⟨(), rfl, trivial, ⟨by rw [ht]; exact hP.sub [] rfl, hD.sub [] (by decide) rfl⟩⟩, hS.F ht⟩) hS.2.2 dX3_putBridge_26
def fX6_show (v_a : Int32) (v_b : Int32) : Int32 :=
  if (fX6_within v_a 0 7) = 0 then (-2) else if v_b = (-1) then 1 else (-2)
set_option maxHeartbeats 4000000 in
set_option maxRecDepth 100000 in
theorem c_X6_show (l : Launch) (D : va_G) (E : Nat → ClassId) (G : Nat → Nat) (sz : Nat) (a0 : Nat) (v_a : Int32) (v_b : Int32) (a0_now : Nat) (a0_kept : Nat) (a0_ways : Nat) (a0_shelves : Nat) (a0_tape : Nat) (a0_reader : Nat) (a0_refusals : Nat) (a0_bestPack : Nat) (a0_now_counts : Nat) (a0_now_roads : Nat) (a0_now_bridges : Nat) (a0_now_waggons : Nat) (a0_now_parts : Nat) (a0_now_settings : Nat) (a0_now_trip : Nat) (a0_shelves_held : Nat) (a0_shelves_size : Nat) (a0_shelves_cells : Nat) : Met l yX6_show (oh_w yX6_show cX6_show 3 (some .int)) ({ frames := 2, cells := 0, slots := 0, locals := 44 }) (oh_Pm D E G [.ref a0, .int v_a, .int v_b] [(a0, .inr (6, [.ref a0_now, .ref a0_kept, .int 0, .ref a0_ways, .ref a0_shelves, .ref a0_tape, .ref a0_reader, .ref a0_refusals, .ref a0_bestPack])), (a0_now, .inr (0, [.ref a0_now_counts, .ref a0_now_roads, .ref a0_now_bridges, .ref a0_now_waggons, .ref a0_now_parts, .ref a0_now_settings, .ref a0_now_trip, .int 0])), (a0_now_counts, .inl (E 0, 4, .inl (fun _ => 0))), (a0_shelves, .inr (3, [.ref a0_shelves_held, .ref a0_shelves_size, .ref a0_shelves_cells])), (a0_shelves_held, .inl (E 0, 8, .inl (fun _ => (-1)))), (a0_shelves_size, .inl (E 0, 8, .inl (fun _ => 0))), (a0_refusals, .inl (E 0, 5, .inl (fun _ => 0)))] sz) (va_Qi (fun r (_ : Unit) => r = fX6_show v_a v_b) (oh_B D (va_A [(a0, .inr (6, [.ref a0_now, .ref a0_kept, .int 0, .ref a0_ways, .ref a0_shelves, .ref a0_tape, .ref a0_reader, .ref a0_refusals, .ref a0_bestPack])), (a0_now, .inr (0, [.ref a0_now_counts, .ref a0_now_roads, .ref a0_now_bridges, .ref a0_now_waggons, .ref a0_now_parts, .ref a0_now_settings, .ref a0_now_trip, .int 0])), (a0_now_counts, .inl (E 0, 4, .inl (fun _ => 0))), (a0_shelves, .inr (3, [.ref a0_shelves_held, .ref a0_shelves_size, .ref a0_shelves_cells])), (a0_shelves_held, .inl (E 0, 8, .inl (fun _ => (-1)))), (a0_shelves_size, .inl (E 0, 8, .inl (fun _ => 0))), (a0_refusals, .inl (E 0, 5, .inl (fun _ => 0)))] sz) (fun _ => [])) (va_A [(a0, .inr (6, [.ref a0_now, .ref a0_kept, .int 0, .ref a0_ways, .ref a0_shelves, .ref a0_tape, .ref a0_reader, .ref a0_refusals, .ref a0_bestPack])), (a0_now, .inr (0, [.ref a0_now_counts, .ref a0_now_roads, .ref a0_now_bridges, .ref a0_now_waggons, .ref a0_now_parts, .ref a0_now_settings, .ref a0_now_trip, .int 0])), (a0_now_counts, .inl (E 0, 4, .inl (fun _ => 0))), (a0_shelves, .inr (3, [.ref a0_shelves_held, .ref a0_shelves_size, .ref a0_shelves_cells])), (a0_shelves_held, .inl (E 0, 8, .inl (fun _ => (-1)))), (a0_shelves_size, .inl (E 0, 8, .inl (fun _ => 0))), (a0_refusals, .inl (E 0, 5, .inl (fun _ => 0)))] sz)) 0 0 (va_A [(a0, .inr (6, [.ref a0_now, .ref a0_kept, .int 0, .ref a0_ways, .ref a0_shelves, .ref a0_tape, .ref a0_reader, .ref a0_refusals, .ref a0_bestPack])), (a0_now, .inr (0, [.ref a0_now_counts, .ref a0_now_roads, .ref a0_now_bridges, .ref a0_now_waggons, .ref a0_now_parts, .ref a0_now_settings, .ref a0_now_trip, .int 0])), (a0_now_counts, .inl (E 0, 4, .inl (fun _ => 0))), (a0_shelves, .inr (3, [.ref a0_shelves_held, .ref a0_shelves_size, .ref a0_shelves_cells])), (a0_shelves_held, .inl (E 0, 8, .inl (fun _ => (-1)))), (a0_shelves_size, .inl (E 0, 8, .inl (fun _ => 0))), (a0_refusals, .inl (E 0, 5, .inl (fun _ => 0)))] sz) := by
  refine Met.ofW (cc := cX6_show) (maxL := 3) (ret := (some .int)) (by decide) rfl ?_
  intro p e s m args below meth c s₁ B hml hv
  obtain ⟨rfl, hsz, hP, hK, hD0, hG⟩ := hv
  have hx := B.exec
  have hb := B.bytes
  have hr := B.returns
  have hts := atoms_spec (ws := (oh_w yX6_show cX6_show 3 (some .int))) B.pre
  have htg : ∀ w ∈ oh_t, w.before _ s = true := fun w h => hts w (List.mem_cons_of_mem _ h)
  have hown : s.vm.findClass RX6 = some m.cls := findClass_of_methodNamed B.named
  have hlocks := B.notSynchronized
  subst hsz
  have hD := hD0.self (sz := s.heap.size)
  generalize hAe : va_A [(a0, .inr (6, [.ref a0_now, .ref a0_kept, .int 0, .ref a0_ways, .ref a0_shelves, .ref a0_tape, .ref a0_reader, .ref a0_refusals, .ref a0_bestPack])), (a0_now, .inr (0, [.ref a0_now_counts, .ref a0_now_roads, .ref a0_now_bridges, .ref a0_now_waggons, .ref a0_now_parts, .ref a0_now_settings, .ref a0_now_trip, .int 0])), (a0_now_counts, .inl (E 0, 4, .inl (fun _ => 0))), (a0_shelves, .inr (3, [.ref a0_shelves_held, .ref a0_shelves_size, .ref a0_shelves_cells])), (a0_shelves_held, .inl (E 0, 8, .inl (fun _ => (-1)))), (a0_shelves_size, .inl (E 0, 8, .inl (fun _ => 0))), (a0_refusals, .inl (E 0, 5, .inl (fun _ => 0)))] s.heap.size = A at hD hG ⊢
  have hA : ∀ q : Nat, s.heap.size ≤ q → A q := fun q h => by rw [← hAe]; exact Or.inr h
  have hS : va_S A s.heap s.heap [] := va_S.rf
  have hP : va_P D vwCl [(a0, .inr (6, [.ref a0_now, .ref a0_kept, .int 0, .ref a0_ways, .ref a0_shelves, .ref a0_tape, .ref a0_reader, .ref a0_refusals, .ref a0_bestPack])), (a0_now, .inr (0, [.ref a0_now_counts, .ref a0_now_roads, .ref a0_now_bridges, .ref a0_now_waggons, .ref a0_now_parts, .ref a0_now_settings, .ref a0_now_trip, .int 0])), (a0_now_counts, .inl (E 0, 4, .inl (fun _ => 0))), (a0_shelves, .inr (3, [.ref a0_shelves_held, .ref a0_shelves_size, .ref a0_shelves_cells])), (a0_shelves_held, .inl (E 0, 8, .inl (fun _ => (-1)))), (a0_shelves_size, .inl (E 0, 8, .inl (fun _ => 0))), (a0_refusals, .inl (E 0, 5, .inl (fun _ => 0)))] s.heap := hP
  have hl := lv_entry ([.ref a0, .int v_a, .int v_b]) (n := 3) (Nat.le_of_ble_eq_true rfl)
  rw [lg_entry_eq]
  generalize (lg_sl ([.ref a0, .int v_a, .int v_b]) ++ List.replicate (3 - (lg_sl ([.ref a0, .int v_a, .int v_b])).length) Slot.unset).toArray = ls at hl ⊢
  have hl : lv_has ls 3 [(0, .ref a0), (1, .int v_a), (2, .int v_b)] := hl
  refine lv_iload_n hx hb dX6_show_0 rfl (lv_at hl 1 rfl) ?_
  refine oh_pS (As := [.int v_a]) (rest := []) (v := fX6_within v_a 0 7) ⟨hx, hb, hml, hown, htg⟩ (c_X6_isShelf l D E G v_a) (va_cwS 1 htg (oh_gS q_290 q_291 q_66 q_292) rfl rfl rfl pdX6_isShelf ⟨Nat.le_of_ble_eq_true rfl, Nat.le_of_ble_eq_true rfl⟩) hK (hP.sub (ws' := []) [] rfl) hG hS rfl hl.1 rfl (Nat.le_of_ble_eq_true rfl) dX6_show_1 ⟨Nat.le_of_ble_eq_true rfl, Nat.le_of_ble_eq_true rfl⟩ ?_
  refine lv_if_eq (tgt := 20) hx hb dX6_show_4 (by decide) (fun (c_1 : (fX6_within v_a 0 7) = 0) => ?_) (fun (c_1 : ¬ ((fX6_within v_a 0 7) = 0)) => ?_)
  · refine lv_aload_n hx hb dX6_show_20 rfl (lv_at hl 0 rfl) ?_
    refine lv_bipush (v := (-2)) hx hb dX6_show_21 (by decide) ?_
    refine oh_mV (As := [.int (-2)]) (rest := []) (wr := [(a0_now, .inr (0, [.ref a0_now_counts, .ref a0_now_roads, .ref a0_now_bridges, .ref a0_now_waggons, .ref a0_now_parts, .ref a0_now_settings, .ref a0_now_trip, .int 0])), (a0_now_counts, .inl (E 0, 4, .inl (fun _ => 0))), (a0_shelves, .inr (3, [.ref a0_shelves_held, .ref a0_shelves_size, .ref a0_shelves_cells])), (a0_shelves_held, .inl (E 0, 8, .inl (fun _ => (-1)))), (a0_shelves_size, .inl (E 0, 8, .inl (fun _ => 0)))]) ⟨hx, hb, hml, hown, htg⟩ (c_X6_refuse l D E G s.heap.size a0 (-2) a0_now a0_kept a0_ways a0_shelves a0_tape a0_reader a0_refusals a0_bestPack) (cwV 1 htg (oh_gV q_296 q_298 q_0 q_66 q_299) rfl rfl rfl pdVX6_refuse ⟨Nat.le_of_ble_eq_true rfl, Nat.le_of_ble_eq_true rfl⟩) hK hP hD hG hS hA [0, 6] [1, 2, 3, 4, 5] rfl rfl (by decide) (by decide) (by decide) (va_recv hK hP (ci := 6) (q0 := 0) rfl rfl) rfl hl.1 rfl (Nat.le_of_ble_eq_true rfl) dX6_show_23 ⟨Nat.le_of_ble_eq_true rfl, Nat.le_of_ble_eq_true rfl⟩ (fun r_1 u H locs hw hP hD hS => ?_)
    subst hw
    have hP : va_P D vwCl [(a0_now, .inr (0, [.ref a0_now_counts, .ref a0_now_roads, .ref a0_now_bridges, .ref a0_now_waggons, .ref a0_now_parts, .ref a0_now_settings, .ref a0_now_trip, .int 0])), (a0_now_counts, .inl (E 0, 4, .inl (fun _ => 0))), (a0_shelves, .inr (3, [.ref a0_shelves_held, .ref a0_shelves_size, .ref a0_shelves_cells])), (a0_shelves_held, .inl (E 0, 8, .inl (fun _ => (-1)))), (a0_shelves_size, .inl (E 0, 8, .inl (fun _ => 0))), (a0, .inr (6, [.ref a0_now, .ref a0_kept, .int 0, .ref a0_ways, .ref a0_shelves, .ref a0_tape, .ref a0_reader, .ref a0_refusals, .ref a0_bestPack]))] H := hP
    have hD : va_D A [(a0_now, .inr (0, [.ref a0_now_counts, .ref a0_now_roads, .ref a0_now_bridges, .ref a0_now_waggons, .ref a0_now_parts, .ref a0_now_settings, .ref a0_now_trip, .int 0])), (a0_now_counts, .inl (E 0, 4, .inl (fun _ => 0))), (a0_shelves, .inr (3, [.ref a0_shelves_held, .ref a0_shelves_size, .ref a0_shelves_cells])), (a0_shelves_held, .inl (E 0, 8, .inl (fun _ => (-1)))), (a0_shelves_size, .inl (E 0, 8, .inl (fun _ => 0))), (a0, .inr (6, [.ref a0_now, .ref a0_kept, .int 0, .ref a0_ways, .ref a0_shelves, .ref a0_tape, .ref a0_reader, .ref a0_refusals, .ref a0_bestPack]))] := hD
    refine W.widen (k := 0) (n := 0) (Nat.le_refl _) (Nat.le_refl _) ?_
    refine W.widen (k := 0) (n := 0) (Nat.le_of_ble_eq_true rfl) (Nat.le_of_ble_eq_true rfl) ?_
    exact W.iret (v := (-2)) hx hb hr (fun t ht hW => ⟨⟨(-2), (), rfl, by unfold fX6_show; rw [if_pos c_1], ⟨by rw [ht]; exact hP.sub [] rfl, hD.sub [] (by decide) rfl⟩⟩, hS.F ht⟩) hS.2.2 dX6_show_26
  · refine lv_iload_n hx hb dX6_show_7 rfl (lv_at hl 2 rfl) ?_
    refine lv_iconst (v := (-1)) hx hb dX6_show_8 (by decide) ?_
    refine lv_icmp_eq (tgt := 27) hx hb dX6_show_9 (by decide) (fun (c_2 : v_b = (-1)) => ?_) (fun (c_2 : ¬ (v_b = (-1))) => ?_)
    · refine lv_aload_n hx hb dX6_show_27 rfl (lv_at hl 0 rfl) ?_
      refine va_get (D := D) (ci := 6) (v := .ref a0_shelves) (C := RX6) (T := TX6) (N := 9) hx hb htg ig_6 hown hK hP 0 rfl rfl 4 (by decide) (htg _ q_262) (fun _ h9 => h9) rfl dX6_show_28 ?_
      refine lv_iload_n hx hb dX6_show_31 rfl (lv_at hl 1 rfl) ?_
      refine lv_iload_n hx hb dX6_show_32 rfl (lv_at hl 2 rfl) ?_
      refine oh_mVv (As := [.int v_a, .int v_b]) (rest := []) (wr := [(a0, .inr (6, [.ref a0_now, .ref a0_kept, .int 0, .ref a0_ways, .ref a0_shelves, .ref a0_tape, .ref a0_reader, .ref a0_refusals, .ref a0_bestPack])), (a0_now, .inr (0, [.ref a0_now_counts, .ref a0_now_roads, .ref a0_now_bridges, .ref a0_now_waggons, .ref a0_now_parts, .ref a0_now_settings, .ref a0_now_trip, .int 0])), (a0_now_counts, .inl (E 0, 4, .inl (fun _ => 0))), (a0_refusals, .inl (E 0, 5, .inl (fun _ => 0)))]) ⟨hx, hb, hml, hown, htg⟩ (c_X3_putBridge l D E G s.heap.size a0_shelves v_a v_b a0_shelves_held a0_shelves_size a0_shelves_cells (oh_win c_1 (by decide))) (cwV 2 htg (oh_gV q_370 q_371 q_372 q_70 q_373) rfl rfl rfl pdVX3_putBridge ⟨Nat.le_of_ble_eq_true rfl, Nat.le_of_ble_eq_true rfl⟩) hK hP hD hG hS hA [3, 4, 5] [0, 1, 2, 6] rfl rfl (by decide) (by decide) (by decide) (va_recv hK hP (ci := 3) (q0 := 3) rfl rfl) rfl hl.1 rfl (Nat.le_of_ble_eq_true rfl) dX6_show_33 ⟨Nat.le_of_ble_eq_true rfl, Nat.le_of_ble_eq_true rfl⟩ (fun u H locs hw hP hD hS => ?_)
      have hP : va_P D vwCl [(a0, .inr (6, [.ref a0_now, .ref a0_kept, .int 0, .ref a0_ways, .ref a0_shelves, .ref a0_tape, .ref a0_reader, .ref a0_refusals, .ref a0_bestPack])), (a0_now, .inr (0, [.ref a0_now_counts, .ref a0_now_roads, .ref a0_now_bridges, .ref a0_now_waggons, .ref a0_now_parts, .ref a0_now_settings, .ref a0_now_trip, .int 0])), (a0_now_counts, .inl (E 0, 4, .inl (fun _ => 0))), (a0_refusals, .inl (E 0, 5, .inl (fun _ => 0)))] H := hP
      have hD : va_D A [(a0, .inr (6, [.ref a0_now, .ref a0_kept, .int 0, .ref a0_ways, .ref a0_shelves, .ref a0_tape, .ref a0_reader, .ref a0_refusals, .ref a0_bestPack])), (a0_now, .inr (0, [.ref a0_now_counts, .ref a0_now_roads, .ref a0_now_bridges, .ref a0_now_waggons, .ref a0_now_parts, .ref a0_now_settings, .ref a0_now_trip, .int 0])), (a0_now_counts, .inl (E 0, 4, .inl (fun _ => 0))), (a0_refusals, .inl (E 0, 5, .inl (fun _ => 0)))] := hD
      refine W.widen (k := 0) (n := 0) (Nat.le_refl _) (Nat.le_refl _) ?_
      refine lv_iconst (v := 1) hx hb dX6_show_36 (by decide) ?_
      refine W.widen (k := 0) (n := 0) (Nat.le_of_ble_eq_true rfl) (Nat.le_of_ble_eq_true rfl) ?_
      exact W.iret (v := 1) hx hb hr (fun t ht hW => ⟨⟨1, (), rfl, by unfold fX6_show; rw [if_neg c_1, if_pos c_2], ⟨by rw [ht]; exact hP.sub [] rfl, hD.sub [] (by decide) rfl⟩⟩, hS.F ht⟩) hS.2.2 dX6_show_37
    · refine lv_aload_n hx hb dX6_show_12 rfl (lv_at hl 0 rfl) ?_
      refine lv_iload_n hx hb dX6_show_13 rfl (lv_at hl 2 rfl) ?_
      refine oh_pV (As := [.int v_b]) (rest := []) (v := 0) ⟨hx, hb, hml, hown, htg⟩ (k_X6_isBridge l D E G a0 v_b a0_now a0_kept a0_ways a0_shelves a0_tape a0_reader a0_refusals a0_bestPack a0_now_counts a0_now_roads a0_now_bridges a0_now_waggons a0_now_parts a0_now_settings a0_now_trip) (cwV 1 htg (oh_gV q_366 q_368 q_2 q_66 q_369) rfl rfl rfl pdVX6_isBridge ⟨Nat.le_of_ble_eq_true rfl, Nat.le_of_ble_eq_true rfl⟩) hK (hP.sub (ws' := [(a0, .inr (6, [.ref a0_now, .ref a0_kept, .int 0, .ref a0_ways, .ref a0_shelves, .ref a0_tape, .ref a0_reader, .ref a0_refusals, .ref a0_bestPack])), (a0_now, .inr (0, [.ref a0_now_counts, .ref a0_now_roads, .ref a0_now_bridges, .ref a0_now_waggons, .ref a0_now_parts, .ref a0_now_settings, .ref a0_now_trip, .int 0])), (a0_now_counts, .inl (E 0, 4, .inl (fun _ => 0)))]) [0, 1, 2] rfl) hG hS (va_recv hK hP (ci := 6) (q0 := 0) rfl rfl) rfl hl.1 rfl (Nat.le_of_ble_eq_true rfl) dX6_show_14 ⟨Nat.le_of_ble_eq_true rfl, Nat.le_of_ble_eq_true rfl⟩ ?_
      refine lv_if_ne (tgt := 27) hx hb dX6_show_17 (by decide) (fun c => absurd (show (0 : Int32) = 0 from by decide) c) (fun _ => ?_)
      refine lv_aload_n hx hb dX6_show_20 rfl (lv_at hl 0 rfl) ?_
      refine lv_bipush (v := (-2)) hx hb dX6_show_21 (by decide) ?_
      refine oh_mV (As := [.int (-2)]) (rest := []) (wr := [(a0_now, .inr (0, [.ref a0_now_counts, .ref a0_now_roads, .ref a0_now_bridges, .ref a0_now_waggons, .ref a0_now_parts, .ref a0_now_settings, .ref a0_now_trip, .int 0])), (a0_now_counts, .inl (E 0, 4, .inl (fun _ => 0))), (a0_shelves, .inr (3, [.ref a0_shelves_held, .ref a0_shelves_size, .ref a0_shelves_cells])), (a0_shelves_held, .inl (E 0, 8, .inl (fun _ => (-1)))), (a0_shelves_size, .inl (E 0, 8, .inl (fun _ => 0)))]) ⟨hx, hb, hml, hown, htg⟩ (c_X6_refuse l D E G s.heap.size a0 (-2) a0_now a0_kept a0_ways a0_shelves a0_tape a0_reader a0_refusals a0_bestPack) (cwV 1 htg (oh_gV q_296 q_298 q_0 q_66 q_299) rfl rfl rfl pdVX6_refuse ⟨Nat.le_of_ble_eq_true rfl, Nat.le_of_ble_eq_true rfl⟩) hK hP hD hG hS hA [0, 6] [1, 2, 3, 4, 5] rfl rfl (by decide) (by decide) (by decide) (va_recv hK hP (ci := 6) (q0 := 0) rfl rfl) rfl hl.1 rfl (Nat.le_of_ble_eq_true rfl) dX6_show_23 ⟨Nat.le_of_ble_eq_true rfl, Nat.le_of_ble_eq_true rfl⟩ (fun r_3 u H locs hw hP hD hS => ?_)
      subst hw
      have hP : va_P D vwCl [(a0_now, .inr (0, [.ref a0_now_counts, .ref a0_now_roads, .ref a0_now_bridges, .ref a0_now_waggons, .ref a0_now_parts, .ref a0_now_settings, .ref a0_now_trip, .int 0])), (a0_now_counts, .inl (E 0, 4, .inl (fun _ => 0))), (a0_shelves, .inr (3, [.ref a0_shelves_held, .ref a0_shelves_size, .ref a0_shelves_cells])), (a0_shelves_held, .inl (E 0, 8, .inl (fun _ => (-1)))), (a0_shelves_size, .inl (E 0, 8, .inl (fun _ => 0))), (a0, .inr (6, [.ref a0_now, .ref a0_kept, .int 0, .ref a0_ways, .ref a0_shelves, .ref a0_tape, .ref a0_reader, .ref a0_refusals, .ref a0_bestPack]))] H := hP
      have hD : va_D A [(a0_now, .inr (0, [.ref a0_now_counts, .ref a0_now_roads, .ref a0_now_bridges, .ref a0_now_waggons, .ref a0_now_parts, .ref a0_now_settings, .ref a0_now_trip, .int 0])), (a0_now_counts, .inl (E 0, 4, .inl (fun _ => 0))), (a0_shelves, .inr (3, [.ref a0_shelves_held, .ref a0_shelves_size, .ref a0_shelves_cells])), (a0_shelves_held, .inl (E 0, 8, .inl (fun _ => (-1)))), (a0_shelves_size, .inl (E 0, 8, .inl (fun _ => 0))), (a0, .inr (6, [.ref a0_now, .ref a0_kept, .int 0, .ref a0_ways, .ref a0_shelves, .ref a0_tape, .ref a0_reader, .ref a0_refusals, .ref a0_bestPack]))] := hD
      refine W.widen (k := 0) (n := 0) (Nat.le_refl _) (Nat.le_refl _) ?_
      refine W.widen (k := 0) (n := 0) (Nat.le_of_ble_eq_true rfl) (Nat.le_of_ble_eq_true rfl) ?_
      exact W.iret (v := (-2)) hx hb hr (fun t ht hW => ⟨⟨(-2), (), rfl, by unfold fX6_show; rw [if_neg c_1, if_neg c_2], ⟨by rw [ht]; exact hP.sub [] rfl, hD.sub [] (by decide) rfl⟩⟩, hS.F ht⟩) hS.2.2 dX6_show_26
def fX6_says (v_a : Int32) (v_b : Int32) : Int32 :=
  if (fX6_within v_a 0 7) = 0 then (-2) else if (fX6_within v_b 0 5) = 0 then (-2) else (-4)
set_option maxHeartbeats 4000000 in
set_option maxRecDepth 100000 in
theorem c_X6_says (l : Launch) (D : va_G) (E : Nat → ClassId) (G : Nat → Nat) (sz : Nat) (a0 : Nat) (v_a : Int32) (v_b : Int32) (a0_now : Nat) (a0_kept : Nat) (a0_ways : Nat) (a0_shelves : Nat) (a0_tape : Nat) (a0_reader : Nat) (a0_refusals : Nat) (a0_bestPack : Nat) (a0_now_counts : Nat) (a0_now_roads : Nat) (a0_now_bridges : Nat) (a0_now_waggons : Nat) (a0_now_parts : Nat) (a0_now_settings : Nat) (a0_now_trip : Nat) (a0_shelves_held : Nat) (a0_shelves_size : Nat) (a0_shelves_cells : Nat) : Met l yX6_says (oh_w yX6_says cX6_says 4 (some .int)) ({ frames := 2, cells := 0, slots := 0, locals := 44 }) (oh_Pm D E G [.ref a0, .int v_a, .int v_b] [(a0, .inr (6, [.ref a0_now, .ref a0_kept, .int 0, .ref a0_ways, .ref a0_shelves, .ref a0_tape, .ref a0_reader, .ref a0_refusals, .ref a0_bestPack])), (a0_now, .inr (0, [.ref a0_now_counts, .ref a0_now_roads, .ref a0_now_bridges, .ref a0_now_waggons, .ref a0_now_parts, .ref a0_now_settings, .ref a0_now_trip, .int 0])), (a0_now_counts, .inl (E 0, 4, .inl (fun _ => 0))), (a0_shelves, .inr (3, [.ref a0_shelves_held, .ref a0_shelves_size, .ref a0_shelves_cells])), (a0_shelves_held, .inl (E 0, 8, .inl (fun _ => (-1)))), (a0_refusals, .inl (E 0, 5, .inl (fun _ => 0)))] sz) (va_Qi (fun r (_ : Unit) => r = fX6_says v_a v_b) (oh_B D (va_A [(a0, .inr (6, [.ref a0_now, .ref a0_kept, .int 0, .ref a0_ways, .ref a0_shelves, .ref a0_tape, .ref a0_reader, .ref a0_refusals, .ref a0_bestPack])), (a0_now, .inr (0, [.ref a0_now_counts, .ref a0_now_roads, .ref a0_now_bridges, .ref a0_now_waggons, .ref a0_now_parts, .ref a0_now_settings, .ref a0_now_trip, .int 0])), (a0_now_counts, .inl (E 0, 4, .inl (fun _ => 0))), (a0_shelves, .inr (3, [.ref a0_shelves_held, .ref a0_shelves_size, .ref a0_shelves_cells])), (a0_shelves_held, .inl (E 0, 8, .inl (fun _ => (-1)))), (a0_refusals, .inl (E 0, 5, .inl (fun _ => 0)))] sz) (fun _ => [])) (va_A [(a0, .inr (6, [.ref a0_now, .ref a0_kept, .int 0, .ref a0_ways, .ref a0_shelves, .ref a0_tape, .ref a0_reader, .ref a0_refusals, .ref a0_bestPack])), (a0_now, .inr (0, [.ref a0_now_counts, .ref a0_now_roads, .ref a0_now_bridges, .ref a0_now_waggons, .ref a0_now_parts, .ref a0_now_settings, .ref a0_now_trip, .int 0])), (a0_now_counts, .inl (E 0, 4, .inl (fun _ => 0))), (a0_shelves, .inr (3, [.ref a0_shelves_held, .ref a0_shelves_size, .ref a0_shelves_cells])), (a0_shelves_held, .inl (E 0, 8, .inl (fun _ => (-1)))), (a0_refusals, .inl (E 0, 5, .inl (fun _ => 0)))] sz)) 0 0 (va_A [(a0, .inr (6, [.ref a0_now, .ref a0_kept, .int 0, .ref a0_ways, .ref a0_shelves, .ref a0_tape, .ref a0_reader, .ref a0_refusals, .ref a0_bestPack])), (a0_now, .inr (0, [.ref a0_now_counts, .ref a0_now_roads, .ref a0_now_bridges, .ref a0_now_waggons, .ref a0_now_parts, .ref a0_now_settings, .ref a0_now_trip, .int 0])), (a0_now_counts, .inl (E 0, 4, .inl (fun _ => 0))), (a0_shelves, .inr (3, [.ref a0_shelves_held, .ref a0_shelves_size, .ref a0_shelves_cells])), (a0_shelves_held, .inl (E 0, 8, .inl (fun _ => (-1)))), (a0_refusals, .inl (E 0, 5, .inl (fun _ => 0)))] sz) := by
  refine Met.ofW (cc := cX6_says) (maxL := 4) (ret := (some .int)) (by decide) rfl ?_
  intro p e s m args below meth c s₁ B hml hv
  obtain ⟨rfl, hsz, hP, hK, hD0, hG⟩ := hv
  have hx := B.exec
  have hb := B.bytes
  have hr := B.returns
  have hts := atoms_spec (ws := (oh_w yX6_says cX6_says 4 (some .int))) B.pre
  have htg : ∀ w ∈ oh_t, w.before _ s = true := fun w h => hts w (List.mem_cons_of_mem _ h)
  have hown : s.vm.findClass RX6 = some m.cls := findClass_of_methodNamed B.named
  have hlocks := B.notSynchronized
  subst hsz
  have hD := hD0.self (sz := s.heap.size)
  generalize hAe : va_A [(a0, .inr (6, [.ref a0_now, .ref a0_kept, .int 0, .ref a0_ways, .ref a0_shelves, .ref a0_tape, .ref a0_reader, .ref a0_refusals, .ref a0_bestPack])), (a0_now, .inr (0, [.ref a0_now_counts, .ref a0_now_roads, .ref a0_now_bridges, .ref a0_now_waggons, .ref a0_now_parts, .ref a0_now_settings, .ref a0_now_trip, .int 0])), (a0_now_counts, .inl (E 0, 4, .inl (fun _ => 0))), (a0_shelves, .inr (3, [.ref a0_shelves_held, .ref a0_shelves_size, .ref a0_shelves_cells])), (a0_shelves_held, .inl (E 0, 8, .inl (fun _ => (-1)))), (a0_refusals, .inl (E 0, 5, .inl (fun _ => 0)))] s.heap.size = A at hD hG ⊢
  have hA : ∀ q : Nat, s.heap.size ≤ q → A q := fun q h => by rw [← hAe]; exact Or.inr h
  have hS : va_S A s.heap s.heap [] := va_S.rf
  have hP : va_P D vwCl [(a0, .inr (6, [.ref a0_now, .ref a0_kept, .int 0, .ref a0_ways, .ref a0_shelves, .ref a0_tape, .ref a0_reader, .ref a0_refusals, .ref a0_bestPack])), (a0_now, .inr (0, [.ref a0_now_counts, .ref a0_now_roads, .ref a0_now_bridges, .ref a0_now_waggons, .ref a0_now_parts, .ref a0_now_settings, .ref a0_now_trip, .int 0])), (a0_now_counts, .inl (E 0, 4, .inl (fun _ => 0))), (a0_shelves, .inr (3, [.ref a0_shelves_held, .ref a0_shelves_size, .ref a0_shelves_cells])), (a0_shelves_held, .inl (E 0, 8, .inl (fun _ => (-1)))), (a0_refusals, .inl (E 0, 5, .inl (fun _ => 0)))] s.heap := hP
  have hl := lv_entry ([.ref a0, .int v_a, .int v_b]) (n := 4) (Nat.le_of_ble_eq_true rfl)
  rw [lg_entry_eq]
  generalize (lg_sl ([.ref a0, .int v_a, .int v_b]) ++ List.replicate (4 - (lg_sl ([.ref a0, .int v_a, .int v_b])).length) Slot.unset).toArray = ls at hl ⊢
  have hl : lv_has ls 4 [(0, .ref a0), (1, .int v_a), (2, .int v_b)] := hl
  refine lv_iload_n hx hb dX6_says_0 rfl (lv_at hl 1 rfl) ?_
  refine oh_pS (As := [.int v_a]) (rest := []) (v := fX6_within v_a 0 7) ⟨hx, hb, hml, hown, htg⟩ (c_X6_isShelf l D E G v_a) (va_cwS 1 htg (oh_gS q_290 q_291 q_66 q_292) rfl rfl rfl pdX6_isShelf ⟨Nat.le_of_ble_eq_true rfl, Nat.le_of_ble_eq_true rfl⟩) hK (hP.sub (ws' := []) [] rfl) hG hS rfl hl.1 rfl (Nat.le_of_ble_eq_true rfl) dX6_says_1 ⟨Nat.le_of_ble_eq_true rfl, Nat.le_of_ble_eq_true rfl⟩ ?_
  refine lv_if_eq (tgt := 16) hx hb dX6_says_4 (by decide) (fun (c_1 : (fX6_within v_a 0 7) = 0) => ?_) (fun (c_1 : ¬ ((fX6_within v_a 0 7) = 0)) => ?_)
  · refine lv_aload_n hx hb dX6_says_16 rfl (lv_at hl 0 rfl) ?_
    refine lv_bipush (v := (-2)) hx hb dX6_says_17 (by decide) ?_
    refine oh_mV (As := [.int (-2)]) (rest := []) (wr := [(a0_now, .inr (0, [.ref a0_now_counts, .ref a0_now_roads, .ref a0_now_bridges, .ref a0_now_waggons, .ref a0_now_parts, .ref a0_now_settings, .ref a0_now_trip, .int 0])), (a0_now_counts, .inl (E 0, 4, .inl (fun _ => 0))), (a0_shelves, .inr (3, [.ref a0_shelves_held, .ref a0_shelves_size, .ref a0_shelves_cells])), (a0_shelves_held, .inl (E 0, 8, .inl (fun _ => (-1))))]) ⟨hx, hb, hml, hown, htg⟩ (c_X6_refuse l D E G s.heap.size a0 (-2) a0_now a0_kept a0_ways a0_shelves a0_tape a0_reader a0_refusals a0_bestPack) (cwV 1 htg (oh_gV q_296 q_298 q_0 q_66 q_299) rfl rfl rfl pdVX6_refuse ⟨Nat.le_of_ble_eq_true rfl, Nat.le_of_ble_eq_true rfl⟩) hK hP hD hG hS hA [0, 5] [1, 2, 3, 4] rfl rfl (by decide) (by decide) (by decide) (va_recv hK hP (ci := 6) (q0 := 0) rfl rfl) rfl hl.1 rfl (Nat.le_of_ble_eq_true rfl) dX6_says_19 ⟨Nat.le_of_ble_eq_true rfl, Nat.le_of_ble_eq_true rfl⟩ (fun r_1 u H locs hw hP hD hS => ?_)
    subst hw
    have hP : va_P D vwCl [(a0_now, .inr (0, [.ref a0_now_counts, .ref a0_now_roads, .ref a0_now_bridges, .ref a0_now_waggons, .ref a0_now_parts, .ref a0_now_settings, .ref a0_now_trip, .int 0])), (a0_now_counts, .inl (E 0, 4, .inl (fun _ => 0))), (a0_shelves, .inr (3, [.ref a0_shelves_held, .ref a0_shelves_size, .ref a0_shelves_cells])), (a0_shelves_held, .inl (E 0, 8, .inl (fun _ => (-1)))), (a0, .inr (6, [.ref a0_now, .ref a0_kept, .int 0, .ref a0_ways, .ref a0_shelves, .ref a0_tape, .ref a0_reader, .ref a0_refusals, .ref a0_bestPack]))] H := hP
    have hD : va_D A [(a0_now, .inr (0, [.ref a0_now_counts, .ref a0_now_roads, .ref a0_now_bridges, .ref a0_now_waggons, .ref a0_now_parts, .ref a0_now_settings, .ref a0_now_trip, .int 0])), (a0_now_counts, .inl (E 0, 4, .inl (fun _ => 0))), (a0_shelves, .inr (3, [.ref a0_shelves_held, .ref a0_shelves_size, .ref a0_shelves_cells])), (a0_shelves_held, .inl (E 0, 8, .inl (fun _ => (-1)))), (a0, .inr (6, [.ref a0_now, .ref a0_kept, .int 0, .ref a0_ways, .ref a0_shelves, .ref a0_tape, .ref a0_reader, .ref a0_refusals, .ref a0_bestPack]))] := hD
    refine W.widen (k := 0) (n := 0) (Nat.le_refl _) (Nat.le_refl _) ?_
    refine W.widen (k := 0) (n := 0) (Nat.le_of_ble_eq_true rfl) (Nat.le_of_ble_eq_true rfl) ?_
    exact W.iret (v := (-2)) hx hb hr (fun t ht hW => ⟨⟨(-2), (), rfl, by unfold fX6_says; rw [if_pos c_1], ⟨by rw [ht]; exact hP.sub [] rfl, hD.sub [] (by decide) rfl⟩⟩, hS.F ht⟩) hS.2.2 dX6_says_22
  · refine lv_iload_n hx hb dX6_says_7 rfl (lv_at hl 2 rfl) ?_
    refine lv_iconst (v := 0) hx hb dX6_says_8 (by decide) ?_
    refine lv_iconst (v := 5) hx hb dX6_says_9 (by decide) ?_
    refine oh_pS (As := [.int v_b, .int 0, .int 5]) (rest := []) (v := fX6_within v_b 0 5) ⟨hx, hb, hml, hown, htg⟩ (c_X6_within l D E G v_b 0 5) (va_cwS 3 htg (oh_gS q_293 q_294 q_66 q_295) rfl rfl rfl pdX6_within ⟨Nat.le_of_ble_eq_true rfl, Nat.le_of_ble_eq_true rfl⟩) hK (hP.sub (ws' := []) [] rfl) hG hS rfl hl.1 rfl (Nat.le_of_ble_eq_true rfl) dX6_says_10 ⟨Nat.le_of_ble_eq_true rfl, Nat.le_of_ble_eq_true rfl⟩ ?_
    refine lv_if_ne (tgt := 23) hx hb dX6_says_13 (by decide) (fun (c_2 : ¬ ((fX6_within v_b 0 5) = 0)) => ?_) (fun (c_2 : (fX6_within v_b 0 5) = 0) => ?_)
    · refine lv_aload_n hx hb dX6_says_23 rfl (lv_at hl 0 rfl) ?_
      refine va_get (D := D) (ci := 6) (v := .ref a0_shelves) (C := RX6) (T := TX6) (N := 9) hx hb htg ig_6 hown hK hP 0 rfl rfl 4 (by decide) (htg _ q_262) (fun _ h9 => h9) rfl dX6_says_24 ?_
      refine lv_iload_n hx hb dX6_says_27 rfl (lv_at hl 1 rfl) ?_
      refine oh_pV (As := [.int v_a]) (rest := []) (v := 0) ⟨hx, hb, hml, hown, htg⟩ (c_X3_holdsRow l D E G a0_shelves v_a a0_shelves_held a0_shelves_size a0_shelves_cells (oh_win c_1 (by decide))) (cwV 1 htg (oh_gV q_352 q_336 q_337 q_70 q_338) rfl rfl rfl pdVX3_holdsRow ⟨Nat.le_of_ble_eq_true rfl, Nat.le_of_ble_eq_true rfl⟩) hK (hP.sub (ws' := [(a0_shelves, .inr (3, [.ref a0_shelves_held, .ref a0_shelves_size, .ref a0_shelves_cells])), (a0_shelves_held, .inl (E 0, 8, .inl (fun _ => (-1))))]) [3, 4] rfl) hG hS (va_recv hK hP (ci := 3) (q0 := 3) rfl rfl) rfl hl.1 rfl (Nat.le_of_ble_eq_true rfl) dX6_says_28 ⟨Nat.le_of_ble_eq_true rfl, Nat.le_of_ble_eq_true rfl⟩ ?_
      refine lv_if_eq (tgt := 41) hx hb dX6_says_31 (by decide) (fun _ => ?_) (fun c => absurd (show (0 : Int32) = 0 from by decide) c)
      refine lv_aload_n hx hb dX6_says_41 rfl (lv_at hl 0 rfl) ?_
      refine va_get (D := D) (ci := 6) (v := .ref a0_shelves) (C := RX6) (T := TX6) (N := 9) hx hb htg ig_6 hown hK hP 0 rfl rfl 4 (by decide) (htg _ q_262) (fun _ h9 => h9) rfl dX6_says_42 ?_
      refine va_get (D := D) (ci := 3) (v := .ref a0_shelves_held) (C := RX3) (T := TX3) (N := 3) hx hb htg ig_3 hown hK hP 3 rfl rfl 0 (by decide) (htg _ q_199) (fun _ h9 => h9) rfl dX6_says_45 ?_
      refine lv_iload_n hx hb dX6_says_48 rfl (lv_at hl 1 rfl) ?_
      refine va_iald hx hb hK hP 4 0 rfl rfl (oh_win c_1 (by decide)) dX6_says_49 ?_
      refine oh_nrm (v := (-1)) (by rfl) ?_
      refine lv_bipush (v := 10) hx hb dX6_says_50 (by decide) ?_
      refine lv_isub hx hb dX6_says_52 ?_
      refine oh_nrm (v := (-11)) (by decide) ?_
      refine lv_istore_n (lv' := [(3, .int (-11)), (0, .ref a0), (1, .int v_a), (2, .int v_b)]) hx hb dX6_says_53 rfl hl (by decide) rfl (fun ls hl => ?_)
      refine lv_aload_n hx hb dX6_says_54 rfl (lv_at hl 1 rfl) ?_
      refine lv_iload_n hx hb dX6_says_55 rfl (lv_at hl 0 rfl) ?_
      refine oh_pV (As := [.int (-11)]) (rest := []) (v := 0) ⟨hx, hb, hml, hown, htg⟩ (k_X6_isBridge l D E G a0 (-11) a0_now a0_kept a0_ways a0_shelves a0_tape a0_reader a0_refusals a0_bestPack a0_now_counts a0_now_roads a0_now_bridges a0_now_waggons a0_now_parts a0_now_settings a0_now_trip) (cwV 1 htg (oh_gV q_366 q_368 q_2 q_66 q_369) rfl rfl rfl pdVX6_isBridge ⟨Nat.le_of_ble_eq_true rfl, Nat.le_of_ble_eq_true rfl⟩) hK (hP.sub (ws' := [(a0, .inr (6, [.ref a0_now, .ref a0_kept, .int 0, .ref a0_ways, .ref a0_shelves, .ref a0_tape, .ref a0_reader, .ref a0_refusals, .ref a0_bestPack])), (a0_now, .inr (0, [.ref a0_now_counts, .ref a0_now_roads, .ref a0_now_bridges, .ref a0_now_waggons, .ref a0_now_parts, .ref a0_now_settings, .ref a0_now_trip, .int 0])), (a0_now_counts, .inl (E 0, 4, .inl (fun _ => 0)))]) [0, 1, 2] rfl) hG hS (va_recv hK hP (ci := 6) (q0 := 0) rfl rfl) rfl hl.1 rfl (Nat.le_of_ble_eq_true rfl) dX6_says_56 ⟨Nat.le_of_ble_eq_true rfl, Nat.le_of_ble_eq_true rfl⟩ ?_
      refine lv_if_ne (tgt := 69) hx hb dX6_says_59 (by decide) (fun c => absurd (show (0 : Int32) = 0 from by decide) c) (fun _ => ?_)
      refine lv_aload_n hx hb dX6_says_62 rfl (lv_at hl 1 rfl) ?_
      refine lv_bipush (v := (-4)) hx hb dX6_says_63 (by decide) ?_
      refine oh_mV (As := [.int (-4)]) (rest := []) (wr := [(a0_now, .inr (0, [.ref a0_now_counts, .ref a0_now_roads, .ref a0_now_bridges, .ref a0_now_waggons, .ref a0_now_parts, .ref a0_now_settings, .ref a0_now_trip, .int 0])), (a0_now_counts, .inl (E 0, 4, .inl (fun _ => 0))), (a0_shelves, .inr (3, [.ref a0_shelves_held, .ref a0_shelves_size, .ref a0_shelves_cells])), (a0_shelves_held, .inl (E 0, 8, .inl (fun _ => (-1))))]) ⟨hx, hb, hml, hown, htg⟩ (c_X6_refuse l D E G s.heap.size a0 (-4) a0_now a0_kept a0_ways a0_shelves a0_tape a0_reader a0_refusals a0_bestPack) (cwV 1 htg (oh_gV q_296 q_298 q_0 q_66 q_299) rfl rfl rfl pdVX6_refuse ⟨Nat.le_of_ble_eq_true rfl, Nat.le_of_ble_eq_true rfl⟩) hK hP hD hG hS hA [0, 5] [1, 2, 3, 4] rfl rfl (by decide) (by decide) (by decide) (va_recv hK hP (ci := 6) (q0 := 0) rfl rfl) rfl hl.1 rfl (Nat.le_of_ble_eq_true rfl) dX6_says_65 ⟨Nat.le_of_ble_eq_true rfl, Nat.le_of_ble_eq_true rfl⟩ (fun r_2 u H locs hw hP hD hS => ?_)
      subst hw
      have hP : va_P D vwCl [(a0_now, .inr (0, [.ref a0_now_counts, .ref a0_now_roads, .ref a0_now_bridges, .ref a0_now_waggons, .ref a0_now_parts, .ref a0_now_settings, .ref a0_now_trip, .int 0])), (a0_now_counts, .inl (E 0, 4, .inl (fun _ => 0))), (a0_shelves, .inr (3, [.ref a0_shelves_held, .ref a0_shelves_size, .ref a0_shelves_cells])), (a0_shelves_held, .inl (E 0, 8, .inl (fun _ => (-1)))), (a0, .inr (6, [.ref a0_now, .ref a0_kept, .int 0, .ref a0_ways, .ref a0_shelves, .ref a0_tape, .ref a0_reader, .ref a0_refusals, .ref a0_bestPack]))] H := hP
      have hD : va_D A [(a0_now, .inr (0, [.ref a0_now_counts, .ref a0_now_roads, .ref a0_now_bridges, .ref a0_now_waggons, .ref a0_now_parts, .ref a0_now_settings, .ref a0_now_trip, .int 0])), (a0_now_counts, .inl (E 0, 4, .inl (fun _ => 0))), (a0_shelves, .inr (3, [.ref a0_shelves_held, .ref a0_shelves_size, .ref a0_shelves_cells])), (a0_shelves_held, .inl (E 0, 8, .inl (fun _ => (-1)))), (a0, .inr (6, [.ref a0_now, .ref a0_kept, .int 0, .ref a0_ways, .ref a0_shelves, .ref a0_tape, .ref a0_reader, .ref a0_refusals, .ref a0_bestPack]))] := hD
      refine W.widen (k := 0) (n := 0) (Nat.le_refl _) (Nat.le_refl _) ?_
      refine W.widen (k := 0) (n := 0) (Nat.le_of_ble_eq_true rfl) (Nat.le_of_ble_eq_true rfl) ?_
      exact W.iret (v := (-4)) hx hb hr (fun t ht hW => ⟨⟨(-4), (), rfl, by unfold fX6_says; rw [if_neg c_1, if_neg c_2], ⟨by rw [ht]; exact hP.sub [] rfl, hD.sub [] (by decide) rfl⟩⟩, hS.F ht⟩) hS.2.2 dX6_says_68
    · refine lv_aload_n hx hb dX6_says_16 rfl (lv_at hl 0 rfl) ?_
      refine lv_bipush (v := (-2)) hx hb dX6_says_17 (by decide) ?_
      refine oh_mV (As := [.int (-2)]) (rest := []) (wr := [(a0_now, .inr (0, [.ref a0_now_counts, .ref a0_now_roads, .ref a0_now_bridges, .ref a0_now_waggons, .ref a0_now_parts, .ref a0_now_settings, .ref a0_now_trip, .int 0])), (a0_now_counts, .inl (E 0, 4, .inl (fun _ => 0))), (a0_shelves, .inr (3, [.ref a0_shelves_held, .ref a0_shelves_size, .ref a0_shelves_cells])), (a0_shelves_held, .inl (E 0, 8, .inl (fun _ => (-1))))]) ⟨hx, hb, hml, hown, htg⟩ (c_X6_refuse l D E G s.heap.size a0 (-2) a0_now a0_kept a0_ways a0_shelves a0_tape a0_reader a0_refusals a0_bestPack) (cwV 1 htg (oh_gV q_296 q_298 q_0 q_66 q_299) rfl rfl rfl pdVX6_refuse ⟨Nat.le_of_ble_eq_true rfl, Nat.le_of_ble_eq_true rfl⟩) hK hP hD hG hS hA [0, 5] [1, 2, 3, 4] rfl rfl (by decide) (by decide) (by decide) (va_recv hK hP (ci := 6) (q0 := 0) rfl rfl) rfl hl.1 rfl (Nat.le_of_ble_eq_true rfl) dX6_says_19 ⟨Nat.le_of_ble_eq_true rfl, Nat.le_of_ble_eq_true rfl⟩ (fun r_3 u H locs hw hP hD hS => ?_)
      subst hw
      have hP : va_P D vwCl [(a0_now, .inr (0, [.ref a0_now_counts, .ref a0_now_roads, .ref a0_now_bridges, .ref a0_now_waggons, .ref a0_now_parts, .ref a0_now_settings, .ref a0_now_trip, .int 0])), (a0_now_counts, .inl (E 0, 4, .inl (fun _ => 0))), (a0_shelves, .inr (3, [.ref a0_shelves_held, .ref a0_shelves_size, .ref a0_shelves_cells])), (a0_shelves_held, .inl (E 0, 8, .inl (fun _ => (-1)))), (a0, .inr (6, [.ref a0_now, .ref a0_kept, .int 0, .ref a0_ways, .ref a0_shelves, .ref a0_tape, .ref a0_reader, .ref a0_refusals, .ref a0_bestPack]))] H := hP
      have hD : va_D A [(a0_now, .inr (0, [.ref a0_now_counts, .ref a0_now_roads, .ref a0_now_bridges, .ref a0_now_waggons, .ref a0_now_parts, .ref a0_now_settings, .ref a0_now_trip, .int 0])), (a0_now_counts, .inl (E 0, 4, .inl (fun _ => 0))), (a0_shelves, .inr (3, [.ref a0_shelves_held, .ref a0_shelves_size, .ref a0_shelves_cells])), (a0_shelves_held, .inl (E 0, 8, .inl (fun _ => (-1)))), (a0, .inr (6, [.ref a0_now, .ref a0_kept, .int 0, .ref a0_ways, .ref a0_shelves, .ref a0_tape, .ref a0_reader, .ref a0_refusals, .ref a0_bestPack]))] := hD
      refine W.widen (k := 0) (n := 0) (Nat.le_refl _) (Nat.le_refl _) ?_
      refine W.widen (k := 0) (n := 0) (Nat.le_of_ble_eq_true rfl) (Nat.le_of_ble_eq_true rfl) ?_
      exact W.iret (v := (-2)) hx hb hr (fun t ht hW => ⟨⟨(-2), (), rfl, by unfold fX6_says; rw [if_neg c_1, if_pos c_2], ⟨by rw [ht]; exact hP.sub [] rfl, hD.sub [] (by decide) rfl⟩⟩, hS.F ht⟩) hS.2.2 dX6_says_22
set_option maxHeartbeats 4000000 in
set_option maxRecDepth 100000 in
theorem c_X0_addRoad (l : Launch) (D : va_G) (E : Nat → ClassId) (G : Nat → Nat) (sz : Nat) (a0 : Nat) (v_a : Int32) (v_b : Int32) (v_c : Int32) (v_d : Int32) (v_e : Int32) (v_f : Int32) (a0_counts : Nat) (a0_roads : Nat) (a0_bridges : Nat) (a0_waggons : Nat) (a0_parts : Nat) (a0_settings : Nat) (a0_trip : Nat) : Met l yX0_addRoad (oh_w yX0_addRoad cX0_addRoad 8 (some .int)) ({ frames := 0, cells := 0, slots := 0, locals := 0 }) (oh_Pm D E G [.ref a0, .int v_a, .int v_b, .int v_c, .int v_d, .int v_e, .int v_f] [(a0, .inr (0, [.ref a0_counts, .ref a0_roads, .ref a0_bridges, .ref a0_waggons, .ref a0_parts, .ref a0_settings, .ref a0_trip, .int 0])), (a0_counts, .inl (E 0, 4, .inl (fun _ => 0))), (a0_roads, .inl (E 0, 168, .inl (fun _ => 0)))] sz) (va_Qi (fun r (_ : Unit) => r = 0) (oh_B D (va_A [(a0, .inr (0, [.ref a0_counts, .ref a0_roads, .ref a0_bridges, .ref a0_waggons, .ref a0_parts, .ref a0_settings, .ref a0_trip, .int 0])), (a0_counts, .inl (E 0, 4, .inl (fun _ => 0))), (a0_roads, .inl (E 0, 168, .inl (fun _ => 0)))] sz) (fun _ => [])) (va_A [(a0, .inr (0, [.ref a0_counts, .ref a0_roads, .ref a0_bridges, .ref a0_waggons, .ref a0_parts, .ref a0_settings, .ref a0_trip, .int 0])), (a0_counts, .inl (E 0, 4, .inl (fun _ => 0))), (a0_roads, .inl (E 0, 168, .inl (fun _ => 0)))] sz)) 0 0 (va_A [(a0, .inr (0, [.ref a0_counts, .ref a0_roads, .ref a0_bridges, .ref a0_waggons, .ref a0_parts, .ref a0_settings, .ref a0_trip, .int 0])), (a0_counts, .inl (E 0, 4, .inl (fun _ => 0))), (a0_roads, .inl (E 0, 168, .inl (fun _ => 0)))] sz) := by
  refine Met.ofW (cc := cX0_addRoad) (maxL := 8) (ret := (some .int)) (by decide) rfl ?_
  intro p e s m args below meth c s₁ B hml hv
  obtain ⟨rfl, hsz, hP, hK, hD0, hG⟩ := hv
  have hx := B.exec
  have hb := B.bytes
  have hr := B.returns
  have hts := atoms_spec (ws := (oh_w yX0_addRoad cX0_addRoad 8 (some .int))) B.pre
  have htg : ∀ w ∈ oh_t, w.before _ s = true := fun w h => hts w (List.mem_cons_of_mem _ h)
  have hown : s.vm.findClass RX0 = some m.cls := findClass_of_methodNamed B.named
  have hlocks := B.notSynchronized
  subst hsz
  have hD := hD0.self (sz := s.heap.size)
  generalize hAe : va_A [(a0, .inr (0, [.ref a0_counts, .ref a0_roads, .ref a0_bridges, .ref a0_waggons, .ref a0_parts, .ref a0_settings, .ref a0_trip, .int 0])), (a0_counts, .inl (E 0, 4, .inl (fun _ => 0))), (a0_roads, .inl (E 0, 168, .inl (fun _ => 0)))] s.heap.size = A at hD hG ⊢
  have hA : ∀ q : Nat, s.heap.size ≤ q → A q := fun q h => by rw [← hAe]; exact Or.inr h
  have hS : va_S A s.heap s.heap [] := va_S.rf
  have hP : va_P D vwCl [(a0, .inr (0, [.ref a0_counts, .ref a0_roads, .ref a0_bridges, .ref a0_waggons, .ref a0_parts, .ref a0_settings, .ref a0_trip, .int 0])), (a0_counts, .inl (E 0, 4, .inl (fun _ => 0))), (a0_roads, .inl (E 0, 168, .inl (fun _ => 0)))] s.heap := hP
  have hl := lv_entry ([.ref a0, .int v_a, .int v_b, .int v_c, .int v_d, .int v_e, .int v_f]) (n := 8) (Nat.le_of_ble_eq_true rfl)
  rw [lg_entry_eq]
  generalize (lg_sl ([.ref a0, .int v_a, .int v_b, .int v_c, .int v_d, .int v_e, .int v_f]) ++ List.replicate (8 - (lg_sl ([.ref a0, .int v_a, .int v_b, .int v_c, .int v_d, .int v_e, .int v_f])).length) Slot.unset).toArray = ls at hl ⊢
  have hl : lv_has ls 8 [(0, .ref a0), (1, .int v_a), (2, .int v_b), (3, .int v_c), (4, .int v_d), (5, .int v_e), (6, .int v_f)] := hl
  refine lv_aload_n hx hb dX0_addRoad_0 rfl (lv_at hl 0 rfl) ?_
  refine va_get (D := D) (ci := 0) (v := .ref a0_counts) (C := RX0) (T := TX0) (N := 8) hx hb htg ig_0 hown hK hP 0 rfl rfl 0 (by decide) (htg _ q_97) (fun _ h9 => h9) rfl dX0_addRoad_1 ?_
  refine lv_iconst (v := 0) hx hb dX0_addRoad_4 (by decide) ?_
  refine va_iald hx hb hK hP 1 0 rfl rfl (show vp_in 0 4 by unfold vp_in; decide) dX0_addRoad_5 ?_
  refine oh_nrm (v := 0) (by decide) ?_
  refine lv_bipush (v := 7) hx hb dX0_addRoad_6 (by decide) ?_
  refine lv_imul hx hb dX0_addRoad_8 ?_
  refine oh_nrm (v := 0) (by decide) ?_
  refine lv_istore (lv' := [(7, .int 0), (0, .ref a0), (1, .int v_a), (2, .int v_b), (3, .int v_c), (4, .int v_d), (5, .int v_e), (6, .int v_f)]) hx hb dX0_addRoad_9 hl (by decide) rfl (fun ls hl => ?_)
  refine lv_aload_n hx hb dX0_addRoad_11 rfl (lv_at hl 1 rfl) ?_
  refine va_get (D := D) (ci := 0) (v := .ref a0_roads) (C := RX0) (T := TX0) (N := 8) hx hb htg ig_0 hown hK hP 0 rfl rfl 1 (by decide) (htg _ q_101) (fun _ h9 => h9) rfl dX0_addRoad_12 ?_
  refine lv_iload hx hb dX0_addRoad_15 (lv_at hl 0 rfl) ?_
  refine lv_iconst (v := 0) hx hb dX0_addRoad_17 (by decide) ?_
  refine lv_iadd hx hb dX0_addRoad_18 ?_
  refine oh_nrm (v := 0) (by decide) ?_
  refine lv_iload_n hx hb dX0_addRoad_19 rfl (lv_at hl 2 rfl) ?_
  refine va_iast hx hb hK hP hD hS 2 0 rfl rfl (show vp_in 0 168 by unfold vp_in; decide) dX0_addRoad_20 (fun H locs hP hD hS => ?_)
  have hP : va_P D vwCl [(a0, .inr (0, [.ref a0_counts, .ref a0_roads, .ref a0_bridges, .ref a0_waggons, .ref a0_parts, .ref a0_settings, .ref a0_trip, .int 0])), (a0_counts, .inl (E 0, 4, .inl (fun _ => 0))), (a0_roads, .inl (E 0, 168, .inl (upd (fun _ => 0) 0 v_a)))] H := hP
  have hD : va_D A [(a0, .inr (0, [.ref a0_counts, .ref a0_roads, .ref a0_bridges, .ref a0_waggons, .ref a0_parts, .ref a0_settings, .ref a0_trip, .int 0])), (a0_counts, .inl (E 0, 4, .inl (fun _ => 0))), (a0_roads, .inl (E 0, 168, .inl (upd (fun _ => 0) 0 v_a)))] := hD
  refine lv_aload_n hx hb dX0_addRoad_21 rfl (lv_at hl 1 rfl) ?_
  refine va_get (D := D) (ci := 0) (v := .ref a0_roads) (C := RX0) (T := TX0) (N := 8) hx hb htg ig_0 hown hK hP 0 rfl rfl 1 (by decide) (htg _ q_101) (fun _ h9 => h9) rfl dX0_addRoad_22 ?_
  refine lv_iload hx hb dX0_addRoad_25 (lv_at hl 0 rfl) ?_
  refine lv_iconst (v := 1) hx hb dX0_addRoad_27 (by decide) ?_
  refine lv_iadd hx hb dX0_addRoad_28 ?_
  refine oh_nrm (v := 1) (by decide) ?_
  refine lv_iload_n hx hb dX0_addRoad_29 rfl (lv_at hl 3 rfl) ?_
  refine va_iast hx hb hK hP hD hS 2 0 rfl rfl (show vp_in 1 168 by unfold vp_in; decide) dX0_addRoad_30 (fun H locs hP hD hS => ?_)
  have hP : va_P D vwCl [(a0, .inr (0, [.ref a0_counts, .ref a0_roads, .ref a0_bridges, .ref a0_waggons, .ref a0_parts, .ref a0_settings, .ref a0_trip, .int 0])), (a0_counts, .inl (E 0, 4, .inl (fun _ => 0))), (a0_roads, .inl (E 0, 168, .inl (upd (upd (fun _ => 0) 0 v_a) 1 v_b)))] H := hP
  have hD : va_D A [(a0, .inr (0, [.ref a0_counts, .ref a0_roads, .ref a0_bridges, .ref a0_waggons, .ref a0_parts, .ref a0_settings, .ref a0_trip, .int 0])), (a0_counts, .inl (E 0, 4, .inl (fun _ => 0))), (a0_roads, .inl (E 0, 168, .inl (upd (upd (fun _ => 0) 0 v_a) 1 v_b)))] := hD
  refine lv_aload_n hx hb dX0_addRoad_31 rfl (lv_at hl 1 rfl) ?_
  refine va_get (D := D) (ci := 0) (v := .ref a0_roads) (C := RX0) (T := TX0) (N := 8) hx hb htg ig_0 hown hK hP 0 rfl rfl 1 (by decide) (htg _ q_101) (fun _ h9 => h9) rfl dX0_addRoad_32 ?_
  refine lv_iload hx hb dX0_addRoad_35 (lv_at hl 0 rfl) ?_
  refine lv_iconst (v := 2) hx hb dX0_addRoad_37 (by decide) ?_
  refine lv_iadd hx hb dX0_addRoad_38 ?_
  refine oh_nrm (v := 2) (by decide) ?_
  refine lv_iload_n hx hb dX0_addRoad_39 rfl (lv_at hl 4 rfl) ?_
  refine va_iast hx hb hK hP hD hS 2 0 rfl rfl (show vp_in 2 168 by unfold vp_in; decide) dX0_addRoad_40 (fun H locs hP hD hS => ?_)
  have hP : va_P D vwCl [(a0, .inr (0, [.ref a0_counts, .ref a0_roads, .ref a0_bridges, .ref a0_waggons, .ref a0_parts, .ref a0_settings, .ref a0_trip, .int 0])), (a0_counts, .inl (E 0, 4, .inl (fun _ => 0))), (a0_roads, .inl (E 0, 168, .inl (upd (upd (upd (fun _ => 0) 0 v_a) 1 v_b) 2 v_c)))] H := hP
  have hD : va_D A [(a0, .inr (0, [.ref a0_counts, .ref a0_roads, .ref a0_bridges, .ref a0_waggons, .ref a0_parts, .ref a0_settings, .ref a0_trip, .int 0])), (a0_counts, .inl (E 0, 4, .inl (fun _ => 0))), (a0_roads, .inl (E 0, 168, .inl (upd (upd (upd (fun _ => 0) 0 v_a) 1 v_b) 2 v_c)))] := hD
  refine lv_aload_n hx hb dX0_addRoad_41 rfl (lv_at hl 1 rfl) ?_
  refine va_get (D := D) (ci := 0) (v := .ref a0_roads) (C := RX0) (T := TX0) (N := 8) hx hb htg ig_0 hown hK hP 0 rfl rfl 1 (by decide) (htg _ q_101) (fun _ h9 => h9) rfl dX0_addRoad_42 ?_
  refine lv_iload hx hb dX0_addRoad_45 (lv_at hl 0 rfl) ?_
  refine lv_iconst (v := 3) hx hb dX0_addRoad_47 (by decide) ?_
  refine lv_iadd hx hb dX0_addRoad_48 ?_
  refine oh_nrm (v := 3) (by decide) ?_
  refine lv_iload hx hb dX0_addRoad_49 (lv_at hl 5 rfl) ?_
  refine va_iast hx hb hK hP hD hS 2 0 rfl rfl (show vp_in 3 168 by unfold vp_in; decide) dX0_addRoad_51 (fun H locs hP hD hS => ?_)
  have hP : va_P D vwCl [(a0, .inr (0, [.ref a0_counts, .ref a0_roads, .ref a0_bridges, .ref a0_waggons, .ref a0_parts, .ref a0_settings, .ref a0_trip, .int 0])), (a0_counts, .inl (E 0, 4, .inl (fun _ => 0))), (a0_roads, .inl (E 0, 168, .inl (upd (upd (upd (upd (fun _ => 0) 0 v_a) 1 v_b) 2 v_c) 3 v_d)))] H := hP
  have hD : va_D A [(a0, .inr (0, [.ref a0_counts, .ref a0_roads, .ref a0_bridges, .ref a0_waggons, .ref a0_parts, .ref a0_settings, .ref a0_trip, .int 0])), (a0_counts, .inl (E 0, 4, .inl (fun _ => 0))), (a0_roads, .inl (E 0, 168, .inl (upd (upd (upd (upd (fun _ => 0) 0 v_a) 1 v_b) 2 v_c) 3 v_d)))] := hD
  refine lv_aload_n hx hb dX0_addRoad_52 rfl (lv_at hl 1 rfl) ?_
  refine va_get (D := D) (ci := 0) (v := .ref a0_roads) (C := RX0) (T := TX0) (N := 8) hx hb htg ig_0 hown hK hP 0 rfl rfl 1 (by decide) (htg _ q_101) (fun _ h9 => h9) rfl dX0_addRoad_53 ?_
  refine lv_iload hx hb dX0_addRoad_56 (lv_at hl 0 rfl) ?_
  refine lv_iconst (v := 4) hx hb dX0_addRoad_58 (by decide) ?_
  refine lv_iadd hx hb dX0_addRoad_59 ?_
  refine oh_nrm (v := 4) (by decide) ?_
  refine lv_iload hx hb dX0_addRoad_60 (lv_at hl 6 rfl) ?_
  refine va_iast hx hb hK hP hD hS 2 0 rfl rfl (show vp_in 4 168 by unfold vp_in; decide) dX0_addRoad_62 (fun H locs hP hD hS => ?_)
  have hP : va_P D vwCl [(a0, .inr (0, [.ref a0_counts, .ref a0_roads, .ref a0_bridges, .ref a0_waggons, .ref a0_parts, .ref a0_settings, .ref a0_trip, .int 0])), (a0_counts, .inl (E 0, 4, .inl (fun _ => 0))), (a0_roads, .inl (E 0, 168, .inl (upd (upd (upd (upd (upd (fun _ => 0) 0 v_a) 1 v_b) 2 v_c) 3 v_d) 4 v_e)))] H := hP
  have hD : va_D A [(a0, .inr (0, [.ref a0_counts, .ref a0_roads, .ref a0_bridges, .ref a0_waggons, .ref a0_parts, .ref a0_settings, .ref a0_trip, .int 0])), (a0_counts, .inl (E 0, 4, .inl (fun _ => 0))), (a0_roads, .inl (E 0, 168, .inl (upd (upd (upd (upd (upd (fun _ => 0) 0 v_a) 1 v_b) 2 v_c) 3 v_d) 4 v_e)))] := hD
  refine lv_aload_n hx hb dX0_addRoad_63 rfl (lv_at hl 1 rfl) ?_
  refine va_get (D := D) (ci := 0) (v := .ref a0_roads) (C := RX0) (T := TX0) (N := 8) hx hb htg ig_0 hown hK hP 0 rfl rfl 1 (by decide) (htg _ q_101) (fun _ h9 => h9) rfl dX0_addRoad_64 ?_
  refine lv_iload hx hb dX0_addRoad_67 (lv_at hl 0 rfl) ?_
  refine lv_iconst (v := 5) hx hb dX0_addRoad_69 (by decide) ?_
  refine lv_iadd hx hb dX0_addRoad_70 ?_
  refine oh_nrm (v := 5) (by decide) ?_
  refine lv_iload hx hb dX0_addRoad_71 (lv_at hl 7 rfl) ?_
  refine va_iast hx hb hK hP hD hS 2 0 rfl rfl (show vp_in 5 168 by unfold vp_in; decide) dX0_addRoad_73 (fun H locs hP hD hS => ?_)
  have hP : va_P D vwCl [(a0, .inr (0, [.ref a0_counts, .ref a0_roads, .ref a0_bridges, .ref a0_waggons, .ref a0_parts, .ref a0_settings, .ref a0_trip, .int 0])), (a0_counts, .inl (E 0, 4, .inl (fun _ => 0))), (a0_roads, .inl (E 0, 168, .inl (upd (upd (upd (upd (upd (upd (fun _ => 0) 0 v_a) 1 v_b) 2 v_c) 3 v_d) 4 v_e) 5 v_f)))] H := hP
  have hD : va_D A [(a0, .inr (0, [.ref a0_counts, .ref a0_roads, .ref a0_bridges, .ref a0_waggons, .ref a0_parts, .ref a0_settings, .ref a0_trip, .int 0])), (a0_counts, .inl (E 0, 4, .inl (fun _ => 0))), (a0_roads, .inl (E 0, 168, .inl (upd (upd (upd (upd (upd (upd (fun _ => 0) 0 v_a) 1 v_b) 2 v_c) 3 v_d) 4 v_e) 5 v_f)))] := hD
  refine lv_aload_n hx hb dX0_addRoad_74 rfl (lv_at hl 1 rfl) ?_
  refine va_get (D := D) (ci := 0) (v := .ref a0_roads) (C := RX0) (T := TX0) (N := 8) hx hb htg ig_0 hown hK hP 0 rfl rfl 1 (by decide) (htg _ q_101) (fun _ h9 => h9) rfl dX0_addRoad_75 ?_
  refine lv_iload hx hb dX0_addRoad_78 (lv_at hl 0 rfl) ?_
  refine lv_bipush (v := 6) hx hb dX0_addRoad_80 (by decide) ?_
  refine lv_iadd hx hb dX0_addRoad_82 ?_
  refine oh_nrm (v := 6) (by decide) ?_
  refine lv_iconst (v := 0) hx hb dX0_addRoad_83 (by decide) ?_
  refine va_iast hx hb hK hP hD hS 2 0 rfl rfl (show vp_in 6 168 by unfold vp_in; decide) dX0_addRoad_84 (fun H locs hP hD hS => ?_)
  have hP : va_P D vwCl [(a0, .inr (0, [.ref a0_counts, .ref a0_roads, .ref a0_bridges, .ref a0_waggons, .ref a0_parts, .ref a0_settings, .ref a0_trip, .int 0])), (a0_counts, .inl (E 0, 4, .inl (fun _ => 0))), (a0_roads, .inl (E 0, 168, .inl (upd (upd (upd (upd (upd (upd (upd (fun _ => 0) 0 v_a) 1 v_b) 2 v_c) 3 v_d) 4 v_e) 5 v_f) 6 0)))] H := hP
  have hD : va_D A [(a0, .inr (0, [.ref a0_counts, .ref a0_roads, .ref a0_bridges, .ref a0_waggons, .ref a0_parts, .ref a0_settings, .ref a0_trip, .int 0])), (a0_counts, .inl (E 0, 4, .inl (fun _ => 0))), (a0_roads, .inl (E 0, 168, .inl (upd (upd (upd (upd (upd (upd (upd (fun _ => 0) 0 v_a) 1 v_b) 2 v_c) 3 v_d) 4 v_e) 5 v_f) 6 0)))] := hD
  refine lv_aload_n hx hb dX0_addRoad_85 rfl (lv_at hl 1 rfl) ?_
  refine va_get (D := D) (ci := 0) (v := .ref a0_counts) (C := RX0) (T := TX0) (N := 8) hx hb htg ig_0 hown hK hP 0 rfl rfl 0 (by decide) (htg _ q_97) (fun _ h9 => h9) rfl dX0_addRoad_86 ?_
  refine lv_iconst (v := 0) hx hb dX0_addRoad_89 (by decide) ?_
  refine lv_dup2_11 hx hb dX0_addRoad_90 rfl rfl ?_
  refine va_iald hx hb hK hP 1 0 rfl rfl (show vp_in 0 4 by unfold vp_in; decide) dX0_addRoad_91 ?_
  refine oh_nrm (v := 0) (by decide) ?_
  refine lv_dup_x2 hx hb dX0_addRoad_92 rfl rfl rfl ?_
  refine lv_iconst (v := 1) hx hb dX0_addRoad_93 (by decide) ?_
  refine lv_iadd hx hb dX0_addRoad_94 ?_
  refine oh_nrm (v := 1) (by decide) ?_
  refine va_iast hx hb hK hP hD hS 1 0 rfl rfl (show vp_in 0 4 by unfold vp_in; decide) dX0_addRoad_95 (fun H locs hP hD hS => ?_)
  have hP : va_P D vwCl [(a0, .inr (0, [.ref a0_counts, .ref a0_roads, .ref a0_bridges, .ref a0_waggons, .ref a0_parts, .ref a0_settings, .ref a0_trip, .int 0])), (a0_counts, .inl (E 0, 4, .inl (upd (fun _ => 0) 0 1))), (a0_roads, .inl (E 0, 168, .inl (upd (upd (upd (upd (upd (upd (upd (fun _ => 0) 0 v_a) 1 v_b) 2 v_c) 3 v_d) 4 v_e) 5 v_f) 6 0)))] H := hP
  have hD : va_D A [(a0, .inr (0, [.ref a0_counts, .ref a0_roads, .ref a0_bridges, .ref a0_waggons, .ref a0_parts, .ref a0_settings, .ref a0_trip, .int 0])), (a0_counts, .inl (E 0, 4, .inl (upd (fun _ => 0) 0 1))), (a0_roads, .inl (E 0, 168, .inl (upd (upd (upd (upd (upd (upd (upd (fun _ => 0) 0 v_a) 1 v_b) 2 v_c) 3 v_d) 4 v_e) 5 v_f) 6 0)))] := hD
  refine W.widen (k := 0) (n := 0) (Nat.le_of_ble_eq_true rfl) (Nat.le_of_ble_eq_true rfl) ?_
  exact W.iret (v := 0) hx hb hr (fun t ht hW => ⟨⟨0, (), rfl, rfl, ⟨by rw [ht]; exact hP.sub [] rfl, hD.sub [] (by decide) rfl⟩⟩, hS.F ht⟩) hS.2.2 dX0_addRoad_96
set_option maxHeartbeats 4000000 in
set_option maxRecDepth 100000 in
theorem c_X0_addWaggon (l : Launch) (D : va_G) (E : Nat → ClassId) (G : Nat → Nat) (sz : Nat) (a0 : Nat) (v_a : Int32) (v_b : Int32) (v_c : Int32) (a0_counts : Nat) (a0_roads : Nat) (a0_bridges : Nat) (a0_waggons : Nat) (a0_parts : Nat) (a0_settings : Nat) (a0_trip : Nat) : Met l yX0_addWaggon (oh_w yX0_addWaggon cX0_addWaggon 5 (some .int)) ({ frames := 0, cells := 0, slots := 0, locals := 0 }) (oh_Pm D E G [.ref a0, .int v_a, .int v_b, .int v_c] [(a0, .inr (0, [.ref a0_counts, .ref a0_roads, .ref a0_bridges, .ref a0_waggons, .ref a0_parts, .ref a0_settings, .ref a0_trip, .int 0])), (a0_counts, .inl (E 0, 4, .inl (fun _ => 0))), (a0_waggons, .inl (E 0, 15, .inl (fun _ => 0)))] sz) (va_Qi (fun r (_ : Unit) => r = 0) (oh_B D (va_A [(a0, .inr (0, [.ref a0_counts, .ref a0_roads, .ref a0_bridges, .ref a0_waggons, .ref a0_parts, .ref a0_settings, .ref a0_trip, .int 0])), (a0_counts, .inl (E 0, 4, .inl (fun _ => 0))), (a0_waggons, .inl (E 0, 15, .inl (fun _ => 0)))] sz) (fun _ => [])) (va_A [(a0, .inr (0, [.ref a0_counts, .ref a0_roads, .ref a0_bridges, .ref a0_waggons, .ref a0_parts, .ref a0_settings, .ref a0_trip, .int 0])), (a0_counts, .inl (E 0, 4, .inl (fun _ => 0))), (a0_waggons, .inl (E 0, 15, .inl (fun _ => 0)))] sz)) 0 0 (va_A [(a0, .inr (0, [.ref a0_counts, .ref a0_roads, .ref a0_bridges, .ref a0_waggons, .ref a0_parts, .ref a0_settings, .ref a0_trip, .int 0])), (a0_counts, .inl (E 0, 4, .inl (fun _ => 0))), (a0_waggons, .inl (E 0, 15, .inl (fun _ => 0)))] sz) := by
  refine Met.ofW (cc := cX0_addWaggon) (maxL := 5) (ret := (some .int)) (by decide) rfl ?_
  intro p e s m args below meth c s₁ B hml hv
  obtain ⟨rfl, hsz, hP, hK, hD0, hG⟩ := hv
  have hx := B.exec
  have hb := B.bytes
  have hr := B.returns
  have hts := atoms_spec (ws := (oh_w yX0_addWaggon cX0_addWaggon 5 (some .int))) B.pre
  have htg : ∀ w ∈ oh_t, w.before _ s = true := fun w h => hts w (List.mem_cons_of_mem _ h)
  have hown : s.vm.findClass RX0 = some m.cls := findClass_of_methodNamed B.named
  have hlocks := B.notSynchronized
  subst hsz
  have hD := hD0.self (sz := s.heap.size)
  generalize hAe : va_A [(a0, .inr (0, [.ref a0_counts, .ref a0_roads, .ref a0_bridges, .ref a0_waggons, .ref a0_parts, .ref a0_settings, .ref a0_trip, .int 0])), (a0_counts, .inl (E 0, 4, .inl (fun _ => 0))), (a0_waggons, .inl (E 0, 15, .inl (fun _ => 0)))] s.heap.size = A at hD hG ⊢
  have hA : ∀ q : Nat, s.heap.size ≤ q → A q := fun q h => by rw [← hAe]; exact Or.inr h
  have hS : va_S A s.heap s.heap [] := va_S.rf
  have hP : va_P D vwCl [(a0, .inr (0, [.ref a0_counts, .ref a0_roads, .ref a0_bridges, .ref a0_waggons, .ref a0_parts, .ref a0_settings, .ref a0_trip, .int 0])), (a0_counts, .inl (E 0, 4, .inl (fun _ => 0))), (a0_waggons, .inl (E 0, 15, .inl (fun _ => 0)))] s.heap := hP
  have hl := lv_entry ([.ref a0, .int v_a, .int v_b, .int v_c]) (n := 5) (Nat.le_of_ble_eq_true rfl)
  rw [lg_entry_eq]
  generalize (lg_sl ([.ref a0, .int v_a, .int v_b, .int v_c]) ++ List.replicate (5 - (lg_sl ([.ref a0, .int v_a, .int v_b, .int v_c])).length) Slot.unset).toArray = ls at hl ⊢
  have hl : lv_has ls 5 [(0, .ref a0), (1, .int v_a), (2, .int v_b), (3, .int v_c)] := hl
  refine lv_aload_n hx hb dX0_addWaggon_0 rfl (lv_at hl 0 rfl) ?_
  refine va_get (D := D) (ci := 0) (v := .ref a0_counts) (C := RX0) (T := TX0) (N := 8) hx hb htg ig_0 hown hK hP 0 rfl rfl 0 (by decide) (htg _ q_97) (fun _ h9 => h9) rfl dX0_addWaggon_1 ?_
  refine lv_iconst (v := 2) hx hb dX0_addWaggon_4 (by decide) ?_
  refine va_iald hx hb hK hP 1 0 rfl rfl (show vp_in 2 4 by unfold vp_in; decide) dX0_addWaggon_5 ?_
  refine oh_nrm (v := 0) (by decide) ?_
  refine lv_iconst (v := 3) hx hb dX0_addWaggon_6 (by decide) ?_
  refine lv_imul hx hb dX0_addWaggon_7 ?_
  refine oh_nrm (v := 0) (by decide) ?_
  refine lv_istore (lv' := [(4, .int 0), (0, .ref a0), (1, .int v_a), (2, .int v_b), (3, .int v_c)]) hx hb dX0_addWaggon_8 hl (by decide) rfl (fun ls hl => ?_)
  refine lv_aload_n hx hb dX0_addWaggon_10 rfl (lv_at hl 1 rfl) ?_
  refine va_get (D := D) (ci := 0) (v := .ref a0_waggons) (C := RX0) (T := TX0) (N := 8) hx hb htg ig_0 hown hK hP 0 rfl rfl 3 (by decide) (htg _ q_104) (fun _ h9 => h9) rfl dX0_addWaggon_11 ?_
  refine lv_iload hx hb dX0_addWaggon_14 (lv_at hl 0 rfl) ?_
  refine lv_iconst (v := 0) hx hb dX0_addWaggon_16 (by decide) ?_
  refine lv_iadd hx hb dX0_addWaggon_17 ?_
  refine oh_nrm (v := 0) (by decide) ?_
  refine lv_iload_n hx hb dX0_addWaggon_18 rfl (lv_at hl 2 rfl) ?_
  refine va_iast hx hb hK hP hD hS 2 0 rfl rfl (show vp_in 0 15 by unfold vp_in; decide) dX0_addWaggon_19 (fun H locs hP hD hS => ?_)
  have hP : va_P D vwCl [(a0, .inr (0, [.ref a0_counts, .ref a0_roads, .ref a0_bridges, .ref a0_waggons, .ref a0_parts, .ref a0_settings, .ref a0_trip, .int 0])), (a0_counts, .inl (E 0, 4, .inl (fun _ => 0))), (a0_waggons, .inl (E 0, 15, .inl (upd (fun _ => 0) 0 v_a)))] H := hP
  have hD : va_D A [(a0, .inr (0, [.ref a0_counts, .ref a0_roads, .ref a0_bridges, .ref a0_waggons, .ref a0_parts, .ref a0_settings, .ref a0_trip, .int 0])), (a0_counts, .inl (E 0, 4, .inl (fun _ => 0))), (a0_waggons, .inl (E 0, 15, .inl (upd (fun _ => 0) 0 v_a)))] := hD
  refine lv_aload_n hx hb dX0_addWaggon_20 rfl (lv_at hl 1 rfl) ?_
  refine va_get (D := D) (ci := 0) (v := .ref a0_waggons) (C := RX0) (T := TX0) (N := 8) hx hb htg ig_0 hown hK hP 0 rfl rfl 3 (by decide) (htg _ q_104) (fun _ h9 => h9) rfl dX0_addWaggon_21 ?_
  refine lv_iload hx hb dX0_addWaggon_24 (lv_at hl 0 rfl) ?_
  refine lv_iconst (v := 1) hx hb dX0_addWaggon_26 (by decide) ?_
  refine lv_iadd hx hb dX0_addWaggon_27 ?_
  refine oh_nrm (v := 1) (by decide) ?_
  refine lv_iload_n hx hb dX0_addWaggon_28 rfl (lv_at hl 3 rfl) ?_
  refine va_iast hx hb hK hP hD hS 2 0 rfl rfl (show vp_in 1 15 by unfold vp_in; decide) dX0_addWaggon_29 (fun H locs hP hD hS => ?_)
  have hP : va_P D vwCl [(a0, .inr (0, [.ref a0_counts, .ref a0_roads, .ref a0_bridges, .ref a0_waggons, .ref a0_parts, .ref a0_settings, .ref a0_trip, .int 0])), (a0_counts, .inl (E 0, 4, .inl (fun _ => 0))), (a0_waggons, .inl (E 0, 15, .inl (upd (upd (fun _ => 0) 0 v_a) 1 v_b)))] H := hP
  have hD : va_D A [(a0, .inr (0, [.ref a0_counts, .ref a0_roads, .ref a0_bridges, .ref a0_waggons, .ref a0_parts, .ref a0_settings, .ref a0_trip, .int 0])), (a0_counts, .inl (E 0, 4, .inl (fun _ => 0))), (a0_waggons, .inl (E 0, 15, .inl (upd (upd (fun _ => 0) 0 v_a) 1 v_b)))] := hD
  refine lv_aload_n hx hb dX0_addWaggon_30 rfl (lv_at hl 1 rfl) ?_
  refine va_get (D := D) (ci := 0) (v := .ref a0_waggons) (C := RX0) (T := TX0) (N := 8) hx hb htg ig_0 hown hK hP 0 rfl rfl 3 (by decide) (htg _ q_104) (fun _ h9 => h9) rfl dX0_addWaggon_31 ?_
  refine lv_iload hx hb dX0_addWaggon_34 (lv_at hl 0 rfl) ?_
  refine lv_iconst (v := 2) hx hb dX0_addWaggon_36 (by decide) ?_
  refine lv_iadd hx hb dX0_addWaggon_37 ?_
  refine oh_nrm (v := 2) (by decide) ?_
  refine lv_iload_n hx hb dX0_addWaggon_38 rfl (lv_at hl 4 rfl) ?_
  refine va_iast hx hb hK hP hD hS 2 0 rfl rfl (show vp_in 2 15 by unfold vp_in; decide) dX0_addWaggon_39 (fun H locs hP hD hS => ?_)
  have hP : va_P D vwCl [(a0, .inr (0, [.ref a0_counts, .ref a0_roads, .ref a0_bridges, .ref a0_waggons, .ref a0_parts, .ref a0_settings, .ref a0_trip, .int 0])), (a0_counts, .inl (E 0, 4, .inl (fun _ => 0))), (a0_waggons, .inl (E 0, 15, .inl (upd (upd (upd (fun _ => 0) 0 v_a) 1 v_b) 2 v_c)))] H := hP
  have hD : va_D A [(a0, .inr (0, [.ref a0_counts, .ref a0_roads, .ref a0_bridges, .ref a0_waggons, .ref a0_parts, .ref a0_settings, .ref a0_trip, .int 0])), (a0_counts, .inl (E 0, 4, .inl (fun _ => 0))), (a0_waggons, .inl (E 0, 15, .inl (upd (upd (upd (fun _ => 0) 0 v_a) 1 v_b) 2 v_c)))] := hD
  refine lv_aload_n hx hb dX0_addWaggon_40 rfl (lv_at hl 1 rfl) ?_
  refine va_get (D := D) (ci := 0) (v := .ref a0_counts) (C := RX0) (T := TX0) (N := 8) hx hb htg ig_0 hown hK hP 0 rfl rfl 0 (by decide) (htg _ q_97) (fun _ h9 => h9) rfl dX0_addWaggon_41 ?_
  refine lv_iconst (v := 2) hx hb dX0_addWaggon_44 (by decide) ?_
  refine lv_dup2_11 hx hb dX0_addWaggon_45 rfl rfl ?_
  refine va_iald hx hb hK hP 1 0 rfl rfl (show vp_in 2 4 by unfold vp_in; decide) dX0_addWaggon_46 ?_
  refine oh_nrm (v := 0) (by decide) ?_
  refine lv_dup_x2 hx hb dX0_addWaggon_47 rfl rfl rfl ?_
  refine lv_iconst (v := 1) hx hb dX0_addWaggon_48 (by decide) ?_
  refine lv_iadd hx hb dX0_addWaggon_49 ?_
  refine oh_nrm (v := 1) (by decide) ?_
  refine va_iast hx hb hK hP hD hS 1 0 rfl rfl (show vp_in 2 4 by unfold vp_in; decide) dX0_addWaggon_50 (fun H locs hP hD hS => ?_)
  have hP : va_P D vwCl [(a0, .inr (0, [.ref a0_counts, .ref a0_roads, .ref a0_bridges, .ref a0_waggons, .ref a0_parts, .ref a0_settings, .ref a0_trip, .int 0])), (a0_counts, .inl (E 0, 4, .inl (upd (fun _ => 0) 2 1))), (a0_waggons, .inl (E 0, 15, .inl (upd (upd (upd (fun _ => 0) 0 v_a) 1 v_b) 2 v_c)))] H := hP
  have hD : va_D A [(a0, .inr (0, [.ref a0_counts, .ref a0_roads, .ref a0_bridges, .ref a0_waggons, .ref a0_parts, .ref a0_settings, .ref a0_trip, .int 0])), (a0_counts, .inl (E 0, 4, .inl (upd (fun _ => 0) 2 1))), (a0_waggons, .inl (E 0, 15, .inl (upd (upd (upd (fun _ => 0) 0 v_a) 1 v_b) 2 v_c)))] := hD
  refine W.widen (k := 0) (n := 0) (Nat.le_of_ble_eq_true rfl) (Nat.le_of_ble_eq_true rfl) ?_
  exact W.iret (v := 0) hx hb hr (fun t ht hW => ⟨⟨0, (), rfl, rfl, ⟨by rw [ht]; exact hP.sub [] rfl, hD.sub [] (by decide) rfl⟩⟩, hS.F ht⟩) hS.2.2 dX0_addWaggon_51
set_option maxHeartbeats 4000000 in
set_option maxRecDepth 100000 in
theorem c_X0_addPart (l : Launch) (D : va_G) (E : Nat → ClassId) (G : Nat → Nat) (sz : Nat) (a0 : Nat) (v_a : Int32) (v_b : Int32) (a0_counts : Nat) (a0_roads : Nat) (a0_bridges : Nat) (a0_waggons : Nat) (a0_parts : Nat) (a0_settings : Nat) (a0_trip : Nat) : Met l yX0_addPart (oh_w yX0_addPart cX0_addPart 4 (some .int)) ({ frames := 0, cells := 0, slots := 0, locals := 0 }) (oh_Pm D E G [.ref a0, .int v_a, .int v_b] [(a0, .inr (0, [.ref a0_counts, .ref a0_roads, .ref a0_bridges, .ref a0_waggons, .ref a0_parts, .ref a0_settings, .ref a0_trip, .int 0])), (a0_counts, .inl (E 0, 4, .inl (fun _ => 0))), (a0_parts, .inl (E 0, 10, .inl (fun _ => 0)))] sz) (va_Qi (fun r (_ : Unit) => r = 0) (oh_B D (va_A [(a0, .inr (0, [.ref a0_counts, .ref a0_roads, .ref a0_bridges, .ref a0_waggons, .ref a0_parts, .ref a0_settings, .ref a0_trip, .int 0])), (a0_counts, .inl (E 0, 4, .inl (fun _ => 0))), (a0_parts, .inl (E 0, 10, .inl (fun _ => 0)))] sz) (fun _ => [])) (va_A [(a0, .inr (0, [.ref a0_counts, .ref a0_roads, .ref a0_bridges, .ref a0_waggons, .ref a0_parts, .ref a0_settings, .ref a0_trip, .int 0])), (a0_counts, .inl (E 0, 4, .inl (fun _ => 0))), (a0_parts, .inl (E 0, 10, .inl (fun _ => 0)))] sz)) 0 0 (va_A [(a0, .inr (0, [.ref a0_counts, .ref a0_roads, .ref a0_bridges, .ref a0_waggons, .ref a0_parts, .ref a0_settings, .ref a0_trip, .int 0])), (a0_counts, .inl (E 0, 4, .inl (fun _ => 0))), (a0_parts, .inl (E 0, 10, .inl (fun _ => 0)))] sz) := by
  refine Met.ofW (cc := cX0_addPart) (maxL := 4) (ret := (some .int)) (by decide) rfl ?_
  intro p e s m args below meth c s₁ B hml hv
  obtain ⟨rfl, hsz, hP, hK, hD0, hG⟩ := hv
  have hx := B.exec
  have hb := B.bytes
  have hr := B.returns
  have hts := atoms_spec (ws := (oh_w yX0_addPart cX0_addPart 4 (some .int))) B.pre
  have htg : ∀ w ∈ oh_t, w.before _ s = true := fun w h => hts w (List.mem_cons_of_mem _ h)
  have hown : s.vm.findClass RX0 = some m.cls := findClass_of_methodNamed B.named
  have hlocks := B.notSynchronized
  subst hsz
  have hD := hD0.self (sz := s.heap.size)
  generalize hAe : va_A [(a0, .inr (0, [.ref a0_counts, .ref a0_roads, .ref a0_bridges, .ref a0_waggons, .ref a0_parts, .ref a0_settings, .ref a0_trip, .int 0])), (a0_counts, .inl (E 0, 4, .inl (fun _ => 0))), (a0_parts, .inl (E 0, 10, .inl (fun _ => 0)))] s.heap.size = A at hD hG ⊢
  have hA : ∀ q : Nat, s.heap.size ≤ q → A q := fun q h => by rw [← hAe]; exact Or.inr h
  have hS : va_S A s.heap s.heap [] := va_S.rf
  have hP : va_P D vwCl [(a0, .inr (0, [.ref a0_counts, .ref a0_roads, .ref a0_bridges, .ref a0_waggons, .ref a0_parts, .ref a0_settings, .ref a0_trip, .int 0])), (a0_counts, .inl (E 0, 4, .inl (fun _ => 0))), (a0_parts, .inl (E 0, 10, .inl (fun _ => 0)))] s.heap := hP
  have hl := lv_entry ([.ref a0, .int v_a, .int v_b]) (n := 4) (Nat.le_of_ble_eq_true rfl)
  rw [lg_entry_eq]
  generalize (lg_sl ([.ref a0, .int v_a, .int v_b]) ++ List.replicate (4 - (lg_sl ([.ref a0, .int v_a, .int v_b])).length) Slot.unset).toArray = ls at hl ⊢
  have hl : lv_has ls 4 [(0, .ref a0), (1, .int v_a), (2, .int v_b)] := hl
  refine lv_aload_n hx hb dX0_addPart_0 rfl (lv_at hl 0 rfl) ?_
  refine va_get (D := D) (ci := 0) (v := .ref a0_counts) (C := RX0) (T := TX0) (N := 8) hx hb htg ig_0 hown hK hP 0 rfl rfl 0 (by decide) (htg _ q_97) (fun _ h9 => h9) rfl dX0_addPart_1 ?_
  refine lv_iconst (v := 3) hx hb dX0_addPart_4 (by decide) ?_
  refine va_iald hx hb hK hP 1 0 rfl rfl (show vp_in 3 4 by unfold vp_in; decide) dX0_addPart_5 ?_
  refine oh_nrm (v := 0) (by decide) ?_
  refine lv_iconst (v := 2) hx hb dX0_addPart_6 (by decide) ?_
  refine lv_imul hx hb dX0_addPart_7 ?_
  refine oh_nrm (v := 0) (by decide) ?_
  refine lv_istore_n (lv' := [(3, .int 0), (0, .ref a0), (1, .int v_a), (2, .int v_b)]) hx hb dX0_addPart_8 rfl hl (by decide) rfl (fun ls hl => ?_)
  refine lv_aload_n hx hb dX0_addPart_9 rfl (lv_at hl 1 rfl) ?_
  refine va_get (D := D) (ci := 0) (v := .ref a0_parts) (C := RX0) (T := TX0) (N := 8) hx hb htg ig_0 hown hK hP 0 rfl rfl 4 (by decide) (htg _ q_105) (fun _ h9 => h9) rfl dX0_addPart_10 ?_
  refine lv_iload_n hx hb dX0_addPart_13 rfl (lv_at hl 0 rfl) ?_
  refine lv_iconst (v := 0) hx hb dX0_addPart_14 (by decide) ?_
  refine lv_iadd hx hb dX0_addPart_15 ?_
  refine oh_nrm (v := 0) (by decide) ?_
  refine lv_iload_n hx hb dX0_addPart_16 rfl (lv_at hl 2 rfl) ?_
  refine va_iast hx hb hK hP hD hS 2 0 rfl rfl (show vp_in 0 10 by unfold vp_in; decide) dX0_addPart_17 (fun H locs hP hD hS => ?_)
  have hP : va_P D vwCl [(a0, .inr (0, [.ref a0_counts, .ref a0_roads, .ref a0_bridges, .ref a0_waggons, .ref a0_parts, .ref a0_settings, .ref a0_trip, .int 0])), (a0_counts, .inl (E 0, 4, .inl (fun _ => 0))), (a0_parts, .inl (E 0, 10, .inl (upd (fun _ => 0) 0 v_a)))] H := hP
  have hD : va_D A [(a0, .inr (0, [.ref a0_counts, .ref a0_roads, .ref a0_bridges, .ref a0_waggons, .ref a0_parts, .ref a0_settings, .ref a0_trip, .int 0])), (a0_counts, .inl (E 0, 4, .inl (fun _ => 0))), (a0_parts, .inl (E 0, 10, .inl (upd (fun _ => 0) 0 v_a)))] := hD
  refine lv_aload_n hx hb dX0_addPart_18 rfl (lv_at hl 1 rfl) ?_
  refine va_get (D := D) (ci := 0) (v := .ref a0_parts) (C := RX0) (T := TX0) (N := 8) hx hb htg ig_0 hown hK hP 0 rfl rfl 4 (by decide) (htg _ q_105) (fun _ h9 => h9) rfl dX0_addPart_19 ?_
  refine lv_iload_n hx hb dX0_addPart_22 rfl (lv_at hl 0 rfl) ?_
  refine lv_iconst (v := 1) hx hb dX0_addPart_23 (by decide) ?_
  refine lv_iadd hx hb dX0_addPart_24 ?_
  refine oh_nrm (v := 1) (by decide) ?_
  refine lv_iload_n hx hb dX0_addPart_25 rfl (lv_at hl 3 rfl) ?_
  refine va_iast hx hb hK hP hD hS 2 0 rfl rfl (show vp_in 1 10 by unfold vp_in; decide) dX0_addPart_26 (fun H locs hP hD hS => ?_)
  have hP : va_P D vwCl [(a0, .inr (0, [.ref a0_counts, .ref a0_roads, .ref a0_bridges, .ref a0_waggons, .ref a0_parts, .ref a0_settings, .ref a0_trip, .int 0])), (a0_counts, .inl (E 0, 4, .inl (fun _ => 0))), (a0_parts, .inl (E 0, 10, .inl (upd (upd (fun _ => 0) 0 v_a) 1 v_b)))] H := hP
  have hD : va_D A [(a0, .inr (0, [.ref a0_counts, .ref a0_roads, .ref a0_bridges, .ref a0_waggons, .ref a0_parts, .ref a0_settings, .ref a0_trip, .int 0])), (a0_counts, .inl (E 0, 4, .inl (fun _ => 0))), (a0_parts, .inl (E 0, 10, .inl (upd (upd (fun _ => 0) 0 v_a) 1 v_b)))] := hD
  refine lv_aload_n hx hb dX0_addPart_27 rfl (lv_at hl 1 rfl) ?_
  refine va_get (D := D) (ci := 0) (v := .ref a0_counts) (C := RX0) (T := TX0) (N := 8) hx hb htg ig_0 hown hK hP 0 rfl rfl 0 (by decide) (htg _ q_97) (fun _ h9 => h9) rfl dX0_addPart_28 ?_
  refine lv_iconst (v := 3) hx hb dX0_addPart_31 (by decide) ?_
  refine lv_dup2_11 hx hb dX0_addPart_32 rfl rfl ?_
  refine va_iald hx hb hK hP 1 0 rfl rfl (show vp_in 3 4 by unfold vp_in; decide) dX0_addPart_33 ?_
  refine oh_nrm (v := 0) (by decide) ?_
  refine lv_dup_x2 hx hb dX0_addPart_34 rfl rfl rfl ?_
  refine lv_iconst (v := 1) hx hb dX0_addPart_35 (by decide) ?_
  refine lv_iadd hx hb dX0_addPart_36 ?_
  refine oh_nrm (v := 1) (by decide) ?_
  refine va_iast hx hb hK hP hD hS 1 0 rfl rfl (show vp_in 3 4 by unfold vp_in; decide) dX0_addPart_37 (fun H locs hP hD hS => ?_)
  have hP : va_P D vwCl [(a0, .inr (0, [.ref a0_counts, .ref a0_roads, .ref a0_bridges, .ref a0_waggons, .ref a0_parts, .ref a0_settings, .ref a0_trip, .int 0])), (a0_counts, .inl (E 0, 4, .inl (upd (fun _ => 0) 3 1))), (a0_parts, .inl (E 0, 10, .inl (upd (upd (fun _ => 0) 0 v_a) 1 v_b)))] H := hP
  have hD : va_D A [(a0, .inr (0, [.ref a0_counts, .ref a0_roads, .ref a0_bridges, .ref a0_waggons, .ref a0_parts, .ref a0_settings, .ref a0_trip, .int 0])), (a0_counts, .inl (E 0, 4, .inl (upd (fun _ => 0) 3 1))), (a0_parts, .inl (E 0, 10, .inl (upd (upd (fun _ => 0) 0 v_a) 1 v_b)))] := hD
  refine W.widen (k := 0) (n := 0) (Nat.le_of_ble_eq_true rfl) (Nat.le_of_ble_eq_true rfl) ?_
  exact W.iret (v := 0) hx hb hr (fun t ht hW => ⟨⟨0, (), rfl, rfl, ⟨by rw [ht]; exact hP.sub [] rfl, hD.sub [] (by decide) rfl⟩⟩, hS.F ht⟩) hS.2.2 dX0_addPart_38
def fX6_road (v_a : Int32) (v_b : Int32) (v_c : Int32) (v_d : Int32) (v_e : Int32) (v_f : Int32) : Int32 :=
  if (fX6_within v_a 0 15) = 0 then (-2) else if (fX6_within v_b 0 15) = 0 then (-2) else if v_a = v_b then (-2) else if (fX6_within v_c 1 60) = 0 then (-2) else if (fX6_within v_d 0 9) = 0 then (-2) else if (fX6_within v_e 1 99) = 0 then (-2) else if (fX6_within v_f 0 15) = 0 then (-2) else 0
set_option maxHeartbeats 4000000 in
set_option maxRecDepth 100000 in
theorem c_X6_road (l : Launch) (D : va_G) (E : Nat → ClassId) (G : Nat → Nat) (sz : Nat) (a0 : Nat) (v_a : Int32) (v_b : Int32) (v_c : Int32) (v_d : Int32) (v_e : Int32) (v_f : Int32) (a0_now : Nat) (a0_kept : Nat) (a0_ways : Nat) (a0_shelves : Nat) (a0_tape : Nat) (a0_reader : Nat) (a0_refusals : Nat) (a0_bestPack : Nat) (a0_now_counts : Nat) (a0_now_roads : Nat) (a0_now_bridges : Nat) (a0_now_waggons : Nat) (a0_now_parts : Nat) (a0_now_settings : Nat) (a0_now_trip : Nat) : Met l yX6_road (oh_w yX6_road cX6_road 7 (some .int)) ({ frames := 2, cells := 0, slots := 0, locals := 44 }) (oh_Pm D E G [.ref a0, .int v_a, .int v_b, .int v_c, .int v_d, .int v_e, .int v_f] [(a0, .inr (6, [.ref a0_now, .ref a0_kept, .int 0, .ref a0_ways, .ref a0_shelves, .ref a0_tape, .ref a0_reader, .ref a0_refusals, .ref a0_bestPack])), (a0_now, .inr (0, [.ref a0_now_counts, .ref a0_now_roads, .ref a0_now_bridges, .ref a0_now_waggons, .ref a0_now_parts, .ref a0_now_settings, .ref a0_now_trip, .int 0])), (a0_now_counts, .inl (E 0, 4, .inl (fun _ => 0))), (a0_now_roads, .inl (E 0, 168, .inl (fun _ => 0))), (a0_refusals, .inl (E 0, 5, .inl (fun _ => 0)))] sz) (va_Qi (fun r (_ : Unit) => r = fX6_road v_a v_b v_c v_d v_e v_f) (oh_B D (va_A [(a0, .inr (6, [.ref a0_now, .ref a0_kept, .int 0, .ref a0_ways, .ref a0_shelves, .ref a0_tape, .ref a0_reader, .ref a0_refusals, .ref a0_bestPack])), (a0_now, .inr (0, [.ref a0_now_counts, .ref a0_now_roads, .ref a0_now_bridges, .ref a0_now_waggons, .ref a0_now_parts, .ref a0_now_settings, .ref a0_now_trip, .int 0])), (a0_now_counts, .inl (E 0, 4, .inl (fun _ => 0))), (a0_now_roads, .inl (E 0, 168, .inl (fun _ => 0))), (a0_refusals, .inl (E 0, 5, .inl (fun _ => 0)))] sz) (fun _ => [])) (va_A [(a0, .inr (6, [.ref a0_now, .ref a0_kept, .int 0, .ref a0_ways, .ref a0_shelves, .ref a0_tape, .ref a0_reader, .ref a0_refusals, .ref a0_bestPack])), (a0_now, .inr (0, [.ref a0_now_counts, .ref a0_now_roads, .ref a0_now_bridges, .ref a0_now_waggons, .ref a0_now_parts, .ref a0_now_settings, .ref a0_now_trip, .int 0])), (a0_now_counts, .inl (E 0, 4, .inl (fun _ => 0))), (a0_now_roads, .inl (E 0, 168, .inl (fun _ => 0))), (a0_refusals, .inl (E 0, 5, .inl (fun _ => 0)))] sz)) 0 0 (va_A [(a0, .inr (6, [.ref a0_now, .ref a0_kept, .int 0, .ref a0_ways, .ref a0_shelves, .ref a0_tape, .ref a0_reader, .ref a0_refusals, .ref a0_bestPack])), (a0_now, .inr (0, [.ref a0_now_counts, .ref a0_now_roads, .ref a0_now_bridges, .ref a0_now_waggons, .ref a0_now_parts, .ref a0_now_settings, .ref a0_now_trip, .int 0])), (a0_now_counts, .inl (E 0, 4, .inl (fun _ => 0))), (a0_now_roads, .inl (E 0, 168, .inl (fun _ => 0))), (a0_refusals, .inl (E 0, 5, .inl (fun _ => 0)))] sz) := by
  refine Met.ofW (cc := cX6_road) (maxL := 7) (ret := (some .int)) (by decide) rfl ?_
  intro p e s m args below meth c s₁ B hml hv
  obtain ⟨rfl, hsz, hP, hK, hD0, hG⟩ := hv
  have hx := B.exec
  have hb := B.bytes
  have hr := B.returns
  have hts := atoms_spec (ws := (oh_w yX6_road cX6_road 7 (some .int))) B.pre
  have htg : ∀ w ∈ oh_t, w.before _ s = true := fun w h => hts w (List.mem_cons_of_mem _ h)
  have hown : s.vm.findClass RX6 = some m.cls := findClass_of_methodNamed B.named
  have hlocks := B.notSynchronized
  subst hsz
  have hD := hD0.self (sz := s.heap.size)
  generalize hAe : va_A [(a0, .inr (6, [.ref a0_now, .ref a0_kept, .int 0, .ref a0_ways, .ref a0_shelves, .ref a0_tape, .ref a0_reader, .ref a0_refusals, .ref a0_bestPack])), (a0_now, .inr (0, [.ref a0_now_counts, .ref a0_now_roads, .ref a0_now_bridges, .ref a0_now_waggons, .ref a0_now_parts, .ref a0_now_settings, .ref a0_now_trip, .int 0])), (a0_now_counts, .inl (E 0, 4, .inl (fun _ => 0))), (a0_now_roads, .inl (E 0, 168, .inl (fun _ => 0))), (a0_refusals, .inl (E 0, 5, .inl (fun _ => 0)))] s.heap.size = A at hD hG ⊢
  have hA : ∀ q : Nat, s.heap.size ≤ q → A q := fun q h => by rw [← hAe]; exact Or.inr h
  have hS : va_S A s.heap s.heap [] := va_S.rf
  have hP : va_P D vwCl [(a0, .inr (6, [.ref a0_now, .ref a0_kept, .int 0, .ref a0_ways, .ref a0_shelves, .ref a0_tape, .ref a0_reader, .ref a0_refusals, .ref a0_bestPack])), (a0_now, .inr (0, [.ref a0_now_counts, .ref a0_now_roads, .ref a0_now_bridges, .ref a0_now_waggons, .ref a0_now_parts, .ref a0_now_settings, .ref a0_now_trip, .int 0])), (a0_now_counts, .inl (E 0, 4, .inl (fun _ => 0))), (a0_now_roads, .inl (E 0, 168, .inl (fun _ => 0))), (a0_refusals, .inl (E 0, 5, .inl (fun _ => 0)))] s.heap := hP
  have hl := lv_entry ([.ref a0, .int v_a, .int v_b, .int v_c, .int v_d, .int v_e, .int v_f]) (n := 7) (Nat.le_of_ble_eq_true rfl)
  rw [lg_entry_eq]
  generalize (lg_sl ([.ref a0, .int v_a, .int v_b, .int v_c, .int v_d, .int v_e, .int v_f]) ++ List.replicate (7 - (lg_sl ([.ref a0, .int v_a, .int v_b, .int v_c, .int v_d, .int v_e, .int v_f])).length) Slot.unset).toArray = ls at hl ⊢
  have hl : lv_has ls 7 [(0, .ref a0), (1, .int v_a), (2, .int v_b), (3, .int v_c), (4, .int v_d), (5, .int v_e), (6, .int v_f)] := hl
  refine lv_iload_n hx hb dX6_road_0 rfl (lv_at hl 1 rfl) ?_
  refine oh_pS (As := [.int v_a]) (rest := []) (v := fX6_within v_a 0 15) ⟨hx, hb, hml, hown, htg⟩ (c_X6_isPlace l D E G v_a) (va_cwS 1 htg (oh_gS q_413 q_414 q_66 q_415) rfl rfl rfl pdX6_isPlace ⟨Nat.le_of_ble_eq_true rfl, Nat.le_of_ble_eq_true rfl⟩) hK (hP.sub (ws' := []) [] rfl) hG hS rfl hl.1 rfl (Nat.le_of_ble_eq_true rfl) dX6_road_1 ⟨Nat.le_of_ble_eq_true rfl, Nat.le_of_ble_eq_true rfl⟩ ?_
  refine lv_if_eq (tgt := 62) hx hb dX6_road_4 (by decide) (fun (c_1 : (fX6_within v_a 0 15) = 0) => ?_) (fun (c_1 : ¬ ((fX6_within v_a 0 15) = 0)) => ?_)
  · refine lv_aload_n hx hb dX6_road_62 rfl (lv_at hl 0 rfl) ?_
    refine lv_bipush (v := (-2)) hx hb dX6_road_63 (by decide) ?_
    refine oh_mV (As := [.int (-2)]) (rest := []) (wr := [(a0_now, .inr (0, [.ref a0_now_counts, .ref a0_now_roads, .ref a0_now_bridges, .ref a0_now_waggons, .ref a0_now_parts, .ref a0_now_settings, .ref a0_now_trip, .int 0])), (a0_now_counts, .inl (E 0, 4, .inl (fun _ => 0))), (a0_now_roads, .inl (E 0, 168, .inl (fun _ => 0)))]) ⟨hx, hb, hml, hown, htg⟩ (c_X6_refuse l D E G s.heap.size a0 (-2) a0_now a0_kept a0_ways a0_shelves a0_tape a0_reader a0_refusals a0_bestPack) (cwV 1 htg (oh_gV q_296 q_298 q_0 q_66 q_299) rfl rfl rfl pdVX6_refuse ⟨Nat.le_of_ble_eq_true rfl, Nat.le_of_ble_eq_true rfl⟩) hK hP hD hG hS hA [0, 4] [1, 2, 3] rfl rfl (by decide) (by decide) (by decide) (va_recv hK hP (ci := 6) (q0 := 0) rfl rfl) rfl hl.1 rfl (Nat.le_of_ble_eq_true rfl) dX6_road_65 ⟨Nat.le_of_ble_eq_true rfl, Nat.le_of_ble_eq_true rfl⟩ (fun r_1 u H locs hw hP hD hS => ?_)
    subst hw
    have hP : va_P D vwCl [(a0_now, .inr (0, [.ref a0_now_counts, .ref a0_now_roads, .ref a0_now_bridges, .ref a0_now_waggons, .ref a0_now_parts, .ref a0_now_settings, .ref a0_now_trip, .int 0])), (a0_now_counts, .inl (E 0, 4, .inl (fun _ => 0))), (a0_now_roads, .inl (E 0, 168, .inl (fun _ => 0))), (a0, .inr (6, [.ref a0_now, .ref a0_kept, .int 0, .ref a0_ways, .ref a0_shelves, .ref a0_tape, .ref a0_reader, .ref a0_refusals, .ref a0_bestPack]))] H := hP
    have hD : va_D A [(a0_now, .inr (0, [.ref a0_now_counts, .ref a0_now_roads, .ref a0_now_bridges, .ref a0_now_waggons, .ref a0_now_parts, .ref a0_now_settings, .ref a0_now_trip, .int 0])), (a0_now_counts, .inl (E 0, 4, .inl (fun _ => 0))), (a0_now_roads, .inl (E 0, 168, .inl (fun _ => 0))), (a0, .inr (6, [.ref a0_now, .ref a0_kept, .int 0, .ref a0_ways, .ref a0_shelves, .ref a0_tape, .ref a0_reader, .ref a0_refusals, .ref a0_bestPack]))] := hD
    refine W.widen (k := 0) (n := 0) (Nat.le_refl _) (Nat.le_refl _) ?_
    refine W.widen (k := 0) (n := 0) (Nat.le_of_ble_eq_true rfl) (Nat.le_of_ble_eq_true rfl) ?_
    exact W.iret (v := (-2)) hx hb hr (fun t ht hW => ⟨⟨(-2), (), rfl, by unfold fX6_road; rw [if_pos c_1], ⟨by rw [ht]; exact hP.sub [] rfl, hD.sub [] (by decide) rfl⟩⟩, hS.F ht⟩) hS.2.2 dX6_road_68
  · refine lv_iload_n hx hb dX6_road_7 rfl (lv_at hl 2 rfl) ?_
    refine oh_pS (As := [.int v_b]) (rest := []) (v := fX6_within v_b 0 15) ⟨hx, hb, hml, hown, htg⟩ (c_X6_isPlace l D E G v_b) (va_cwS 1 htg (oh_gS q_413 q_414 q_66 q_415) rfl rfl rfl pdX6_isPlace ⟨Nat.le_of_ble_eq_true rfl, Nat.le_of_ble_eq_true rfl⟩) hK (hP.sub (ws' := []) [] rfl) hG hS rfl hl.1 rfl (Nat.le_of_ble_eq_true rfl) dX6_road_8 ⟨Nat.le_of_ble_eq_true rfl, Nat.le_of_ble_eq_true rfl⟩ ?_
    refine lv_if_eq (tgt := 62) hx hb dX6_road_11 (by decide) (fun (c_2 : (fX6_within v_b 0 15) = 0) => ?_) (fun (c_2 : ¬ ((fX6_within v_b 0 15) = 0)) => ?_)
    · refine lv_aload_n hx hb dX6_road_62 rfl (lv_at hl 0 rfl) ?_
      refine lv_bipush (v := (-2)) hx hb dX6_road_63 (by decide) ?_
      refine oh_mV (As := [.int (-2)]) (rest := []) (wr := [(a0_now, .inr (0, [.ref a0_now_counts, .ref a0_now_roads, .ref a0_now_bridges, .ref a0_now_waggons, .ref a0_now_parts, .ref a0_now_settings, .ref a0_now_trip, .int 0])), (a0_now_counts, .inl (E 0, 4, .inl (fun _ => 0))), (a0_now_roads, .inl (E 0, 168, .inl (fun _ => 0)))]) ⟨hx, hb, hml, hown, htg⟩ (c_X6_refuse l D E G s.heap.size a0 (-2) a0_now a0_kept a0_ways a0_shelves a0_tape a0_reader a0_refusals a0_bestPack) (cwV 1 htg (oh_gV q_296 q_298 q_0 q_66 q_299) rfl rfl rfl pdVX6_refuse ⟨Nat.le_of_ble_eq_true rfl, Nat.le_of_ble_eq_true rfl⟩) hK hP hD hG hS hA [0, 4] [1, 2, 3] rfl rfl (by decide) (by decide) (by decide) (va_recv hK hP (ci := 6) (q0 := 0) rfl rfl) rfl hl.1 rfl (Nat.le_of_ble_eq_true rfl) dX6_road_65 ⟨Nat.le_of_ble_eq_true rfl, Nat.le_of_ble_eq_true rfl⟩ (fun r_2 u H locs hw hP hD hS => ?_)
      subst hw
      have hP : va_P D vwCl [(a0_now, .inr (0, [.ref a0_now_counts, .ref a0_now_roads, .ref a0_now_bridges, .ref a0_now_waggons, .ref a0_now_parts, .ref a0_now_settings, .ref a0_now_trip, .int 0])), (a0_now_counts, .inl (E 0, 4, .inl (fun _ => 0))), (a0_now_roads, .inl (E 0, 168, .inl (fun _ => 0))), (a0, .inr (6, [.ref a0_now, .ref a0_kept, .int 0, .ref a0_ways, .ref a0_shelves, .ref a0_tape, .ref a0_reader, .ref a0_refusals, .ref a0_bestPack]))] H := hP
      have hD : va_D A [(a0_now, .inr (0, [.ref a0_now_counts, .ref a0_now_roads, .ref a0_now_bridges, .ref a0_now_waggons, .ref a0_now_parts, .ref a0_now_settings, .ref a0_now_trip, .int 0])), (a0_now_counts, .inl (E 0, 4, .inl (fun _ => 0))), (a0_now_roads, .inl (E 0, 168, .inl (fun _ => 0))), (a0, .inr (6, [.ref a0_now, .ref a0_kept, .int 0, .ref a0_ways, .ref a0_shelves, .ref a0_tape, .ref a0_reader, .ref a0_refusals, .ref a0_bestPack]))] := hD
      refine W.widen (k := 0) (n := 0) (Nat.le_refl _) (Nat.le_refl _) ?_
      refine W.widen (k := 0) (n := 0) (Nat.le_of_ble_eq_true rfl) (Nat.le_of_ble_eq_true rfl) ?_
      exact W.iret (v := (-2)) hx hb hr (fun t ht hW => ⟨⟨(-2), (), rfl, by unfold fX6_road; rw [if_neg c_1, if_pos c_2], ⟨by rw [ht]; exact hP.sub [] rfl, hD.sub [] (by decide) rfl⟩⟩, hS.F ht⟩) hS.2.2 dX6_road_68
    · refine lv_iload_n hx hb dX6_road_14 rfl (lv_at hl 1 rfl) ?_
      refine lv_iload_n hx hb dX6_road_15 rfl (lv_at hl 2 rfl) ?_
      refine lv_icmp_eq (tgt := 62) hx hb dX6_road_16 (by decide) (fun (c_3 : v_a = v_b) => ?_) (fun (c_3 : ¬ (v_a = v_b)) => ?_)
      · refine lv_aload_n hx hb dX6_road_62 rfl (lv_at hl 0 rfl) ?_
        refine lv_bipush (v := (-2)) hx hb dX6_road_63 (by decide) ?_
        refine oh_mV (As := [.int (-2)]) (rest := []) (wr := [(a0_now, .inr (0, [.ref a0_now_counts, .ref a0_now_roads, .ref a0_now_bridges, .ref a0_now_waggons, .ref a0_now_parts, .ref a0_now_settings, .ref a0_now_trip, .int 0])), (a0_now_counts, .inl (E 0, 4, .inl (fun _ => 0))), (a0_now_roads, .inl (E 0, 168, .inl (fun _ => 0)))]) ⟨hx, hb, hml, hown, htg⟩ (c_X6_refuse l D E G s.heap.size a0 (-2) a0_now a0_kept a0_ways a0_shelves a0_tape a0_reader a0_refusals a0_bestPack) (cwV 1 htg (oh_gV q_296 q_298 q_0 q_66 q_299) rfl rfl rfl pdVX6_refuse ⟨Nat.le_of_ble_eq_true rfl, Nat.le_of_ble_eq_true rfl⟩) hK hP hD hG hS hA [0, 4] [1, 2, 3] rfl rfl (by decide) (by decide) (by decide) (va_recv hK hP (ci := 6) (q0 := 0) rfl rfl) rfl hl.1 rfl (Nat.le_of_ble_eq_true rfl) dX6_road_65 ⟨Nat.le_of_ble_eq_true rfl, Nat.le_of_ble_eq_true rfl⟩ (fun r_3 u H locs hw hP hD hS => ?_)
        subst hw
        have hP : va_P D vwCl [(a0_now, .inr (0, [.ref a0_now_counts, .ref a0_now_roads, .ref a0_now_bridges, .ref a0_now_waggons, .ref a0_now_parts, .ref a0_now_settings, .ref a0_now_trip, .int 0])), (a0_now_counts, .inl (E 0, 4, .inl (fun _ => 0))), (a0_now_roads, .inl (E 0, 168, .inl (fun _ => 0))), (a0, .inr (6, [.ref a0_now, .ref a0_kept, .int 0, .ref a0_ways, .ref a0_shelves, .ref a0_tape, .ref a0_reader, .ref a0_refusals, .ref a0_bestPack]))] H := hP
        have hD : va_D A [(a0_now, .inr (0, [.ref a0_now_counts, .ref a0_now_roads, .ref a0_now_bridges, .ref a0_now_waggons, .ref a0_now_parts, .ref a0_now_settings, .ref a0_now_trip, .int 0])), (a0_now_counts, .inl (E 0, 4, .inl (fun _ => 0))), (a0_now_roads, .inl (E 0, 168, .inl (fun _ => 0))), (a0, .inr (6, [.ref a0_now, .ref a0_kept, .int 0, .ref a0_ways, .ref a0_shelves, .ref a0_tape, .ref a0_reader, .ref a0_refusals, .ref a0_bestPack]))] := hD
        refine W.widen (k := 0) (n := 0) (Nat.le_refl _) (Nat.le_refl _) ?_
        refine W.widen (k := 0) (n := 0) (Nat.le_of_ble_eq_true rfl) (Nat.le_of_ble_eq_true rfl) ?_
        exact W.iret (v := (-2)) hx hb hr (fun t ht hW => ⟨⟨(-2), (), rfl, by unfold fX6_road; rw [if_neg c_1, if_neg c_2, if_pos c_3], ⟨by rw [ht]; exact hP.sub [] rfl, hD.sub [] (by decide) rfl⟩⟩, hS.F ht⟩) hS.2.2 dX6_road_68
      · refine lv_iload_n hx hb dX6_road_19 rfl (lv_at hl 3 rfl) ?_
        refine lv_iconst (v := 1) hx hb dX6_road_20 (by decide) ?_
        refine lv_bipush (v := 60) hx hb dX6_road_21 (by decide) ?_
        refine oh_pS (As := [.int v_c, .int 1, .int 60]) (rest := []) (v := fX6_within v_c 1 60) ⟨hx, hb, hml, hown, htg⟩ (c_X6_within l D E G v_c 1 60) (va_cwS 3 htg (oh_gS q_293 q_294 q_66 q_295) rfl rfl rfl pdX6_within ⟨Nat.le_of_ble_eq_true rfl, Nat.le_of_ble_eq_true rfl⟩) hK (hP.sub (ws' := []) [] rfl) hG hS rfl hl.1 rfl (Nat.le_of_ble_eq_true rfl) dX6_road_23 ⟨Nat.le_of_ble_eq_true rfl, Nat.le_of_ble_eq_true rfl⟩ ?_
        refine lv_if_eq (tgt := 62) hx hb dX6_road_26 (by decide) (fun (c_4 : (fX6_within v_c 1 60) = 0) => ?_) (fun (c_4 : ¬ ((fX6_within v_c 1 60) = 0)) => ?_)
        · refine lv_aload_n hx hb dX6_road_62 rfl (lv_at hl 0 rfl) ?_
          refine lv_bipush (v := (-2)) hx hb dX6_road_63 (by decide) ?_
          refine oh_mV (As := [.int (-2)]) (rest := []) (wr := [(a0_now, .inr (0, [.ref a0_now_counts, .ref a0_now_roads, .ref a0_now_bridges, .ref a0_now_waggons, .ref a0_now_parts, .ref a0_now_settings, .ref a0_now_trip, .int 0])), (a0_now_counts, .inl (E 0, 4, .inl (fun _ => 0))), (a0_now_roads, .inl (E 0, 168, .inl (fun _ => 0)))]) ⟨hx, hb, hml, hown, htg⟩ (c_X6_refuse l D E G s.heap.size a0 (-2) a0_now a0_kept a0_ways a0_shelves a0_tape a0_reader a0_refusals a0_bestPack) (cwV 1 htg (oh_gV q_296 q_298 q_0 q_66 q_299) rfl rfl rfl pdVX6_refuse ⟨Nat.le_of_ble_eq_true rfl, Nat.le_of_ble_eq_true rfl⟩) hK hP hD hG hS hA [0, 4] [1, 2, 3] rfl rfl (by decide) (by decide) (by decide) (va_recv hK hP (ci := 6) (q0 := 0) rfl rfl) rfl hl.1 rfl (Nat.le_of_ble_eq_true rfl) dX6_road_65 ⟨Nat.le_of_ble_eq_true rfl, Nat.le_of_ble_eq_true rfl⟩ (fun r_4 u H locs hw hP hD hS => ?_)
          subst hw
          have hP : va_P D vwCl [(a0_now, .inr (0, [.ref a0_now_counts, .ref a0_now_roads, .ref a0_now_bridges, .ref a0_now_waggons, .ref a0_now_parts, .ref a0_now_settings, .ref a0_now_trip, .int 0])), (a0_now_counts, .inl (E 0, 4, .inl (fun _ => 0))), (a0_now_roads, .inl (E 0, 168, .inl (fun _ => 0))), (a0, .inr (6, [.ref a0_now, .ref a0_kept, .int 0, .ref a0_ways, .ref a0_shelves, .ref a0_tape, .ref a0_reader, .ref a0_refusals, .ref a0_bestPack]))] H := hP
          have hD : va_D A [(a0_now, .inr (0, [.ref a0_now_counts, .ref a0_now_roads, .ref a0_now_bridges, .ref a0_now_waggons, .ref a0_now_parts, .ref a0_now_settings, .ref a0_now_trip, .int 0])), (a0_now_counts, .inl (E 0, 4, .inl (fun _ => 0))), (a0_now_roads, .inl (E 0, 168, .inl (fun _ => 0))), (a0, .inr (6, [.ref a0_now, .ref a0_kept, .int 0, .ref a0_ways, .ref a0_shelves, .ref a0_tape, .ref a0_reader, .ref a0_refusals, .ref a0_bestPack]))] := hD
          refine W.widen (k := 0) (n := 0) (Nat.le_refl _) (Nat.le_refl _) ?_
          refine W.widen (k := 0) (n := 0) (Nat.le_of_ble_eq_true rfl) (Nat.le_of_ble_eq_true rfl) ?_
          exact W.iret (v := (-2)) hx hb hr (fun t ht hW => ⟨⟨(-2), (), rfl, by unfold fX6_road; rw [if_neg c_1, if_neg c_2, if_neg c_3, if_pos c_4], ⟨by rw [ht]; exact hP.sub [] rfl, hD.sub [] (by decide) rfl⟩⟩, hS.F ht⟩) hS.2.2 dX6_road_68
        · refine lv_iload hx hb dX6_road_29 (lv_at hl 4 rfl) ?_
          refine lv_iconst (v := 0) hx hb dX6_road_31 (by decide) ?_
          refine lv_bipush (v := 9) hx hb dX6_road_32 (by decide) ?_
          refine oh_pS (As := [.int v_d, .int 0, .int 9]) (rest := []) (v := fX6_within v_d 0 9) ⟨hx, hb, hml, hown, htg⟩ (c_X6_within l D E G v_d 0 9) (va_cwS 3 htg (oh_gS q_293 q_294 q_66 q_295) rfl rfl rfl pdX6_within ⟨Nat.le_of_ble_eq_true rfl, Nat.le_of_ble_eq_true rfl⟩) hK (hP.sub (ws' := []) [] rfl) hG hS rfl hl.1 rfl (Nat.le_of_ble_eq_true rfl) dX6_road_34 ⟨Nat.le_of_ble_eq_true rfl, Nat.le_of_ble_eq_true rfl⟩ ?_
          refine lv_if_eq (tgt := 62) hx hb dX6_road_37 (by decide) (fun (c_5 : (fX6_within v_d 0 9) = 0) => ?_) (fun (c_5 : ¬ ((fX6_within v_d 0 9) = 0)) => ?_)
          · refine lv_aload_n hx hb dX6_road_62 rfl (lv_at hl 0 rfl) ?_
            refine lv_bipush (v := (-2)) hx hb dX6_road_63 (by decide) ?_
            refine oh_mV (As := [.int (-2)]) (rest := []) (wr := [(a0_now, .inr (0, [.ref a0_now_counts, .ref a0_now_roads, .ref a0_now_bridges, .ref a0_now_waggons, .ref a0_now_parts, .ref a0_now_settings, .ref a0_now_trip, .int 0])), (a0_now_counts, .inl (E 0, 4, .inl (fun _ => 0))), (a0_now_roads, .inl (E 0, 168, .inl (fun _ => 0)))]) ⟨hx, hb, hml, hown, htg⟩ (c_X6_refuse l D E G s.heap.size a0 (-2) a0_now a0_kept a0_ways a0_shelves a0_tape a0_reader a0_refusals a0_bestPack) (cwV 1 htg (oh_gV q_296 q_298 q_0 q_66 q_299) rfl rfl rfl pdVX6_refuse ⟨Nat.le_of_ble_eq_true rfl, Nat.le_of_ble_eq_true rfl⟩) hK hP hD hG hS hA [0, 4] [1, 2, 3] rfl rfl (by decide) (by decide) (by decide) (va_recv hK hP (ci := 6) (q0 := 0) rfl rfl) rfl hl.1 rfl (Nat.le_of_ble_eq_true rfl) dX6_road_65 ⟨Nat.le_of_ble_eq_true rfl, Nat.le_of_ble_eq_true rfl⟩ (fun r_5 u H locs hw hP hD hS => ?_)
            subst hw
            have hP : va_P D vwCl [(a0_now, .inr (0, [.ref a0_now_counts, .ref a0_now_roads, .ref a0_now_bridges, .ref a0_now_waggons, .ref a0_now_parts, .ref a0_now_settings, .ref a0_now_trip, .int 0])), (a0_now_counts, .inl (E 0, 4, .inl (fun _ => 0))), (a0_now_roads, .inl (E 0, 168, .inl (fun _ => 0))), (a0, .inr (6, [.ref a0_now, .ref a0_kept, .int 0, .ref a0_ways, .ref a0_shelves, .ref a0_tape, .ref a0_reader, .ref a0_refusals, .ref a0_bestPack]))] H := hP
            have hD : va_D A [(a0_now, .inr (0, [.ref a0_now_counts, .ref a0_now_roads, .ref a0_now_bridges, .ref a0_now_waggons, .ref a0_now_parts, .ref a0_now_settings, .ref a0_now_trip, .int 0])), (a0_now_counts, .inl (E 0, 4, .inl (fun _ => 0))), (a0_now_roads, .inl (E 0, 168, .inl (fun _ => 0))), (a0, .inr (6, [.ref a0_now, .ref a0_kept, .int 0, .ref a0_ways, .ref a0_shelves, .ref a0_tape, .ref a0_reader, .ref a0_refusals, .ref a0_bestPack]))] := hD
            refine W.widen (k := 0) (n := 0) (Nat.le_refl _) (Nat.le_refl _) ?_
            refine W.widen (k := 0) (n := 0) (Nat.le_of_ble_eq_true rfl) (Nat.le_of_ble_eq_true rfl) ?_
            exact W.iret (v := (-2)) hx hb hr (fun t ht hW => ⟨⟨(-2), (), rfl, by unfold fX6_road; rw [if_neg c_1, if_neg c_2, if_neg c_3, if_neg c_4, if_pos c_5], ⟨by rw [ht]; exact hP.sub [] rfl, hD.sub [] (by decide) rfl⟩⟩, hS.F ht⟩) hS.2.2 dX6_road_68
          · refine lv_iload hx hb dX6_road_40 (lv_at hl 5 rfl) ?_
            refine lv_iconst (v := 1) hx hb dX6_road_42 (by decide) ?_
            refine lv_bipush (v := 99) hx hb dX6_road_43 (by decide) ?_
            refine oh_pS (As := [.int v_e, .int 1, .int 99]) (rest := []) (v := fX6_within v_e 1 99) ⟨hx, hb, hml, hown, htg⟩ (c_X6_within l D E G v_e 1 99) (va_cwS 3 htg (oh_gS q_293 q_294 q_66 q_295) rfl rfl rfl pdX6_within ⟨Nat.le_of_ble_eq_true rfl, Nat.le_of_ble_eq_true rfl⟩) hK (hP.sub (ws' := []) [] rfl) hG hS rfl hl.1 rfl (Nat.le_of_ble_eq_true rfl) dX6_road_45 ⟨Nat.le_of_ble_eq_true rfl, Nat.le_of_ble_eq_true rfl⟩ ?_
            refine lv_if_eq (tgt := 62) hx hb dX6_road_48 (by decide) (fun (c_6 : (fX6_within v_e 1 99) = 0) => ?_) (fun (c_6 : ¬ ((fX6_within v_e 1 99) = 0)) => ?_)
            · refine lv_aload_n hx hb dX6_road_62 rfl (lv_at hl 0 rfl) ?_
              refine lv_bipush (v := (-2)) hx hb dX6_road_63 (by decide) ?_
              refine oh_mV (As := [.int (-2)]) (rest := []) (wr := [(a0_now, .inr (0, [.ref a0_now_counts, .ref a0_now_roads, .ref a0_now_bridges, .ref a0_now_waggons, .ref a0_now_parts, .ref a0_now_settings, .ref a0_now_trip, .int 0])), (a0_now_counts, .inl (E 0, 4, .inl (fun _ => 0))), (a0_now_roads, .inl (E 0, 168, .inl (fun _ => 0)))]) ⟨hx, hb, hml, hown, htg⟩ (c_X6_refuse l D E G s.heap.size a0 (-2) a0_now a0_kept a0_ways a0_shelves a0_tape a0_reader a0_refusals a0_bestPack) (cwV 1 htg (oh_gV q_296 q_298 q_0 q_66 q_299) rfl rfl rfl pdVX6_refuse ⟨Nat.le_of_ble_eq_true rfl, Nat.le_of_ble_eq_true rfl⟩) hK hP hD hG hS hA [0, 4] [1, 2, 3] rfl rfl (by decide) (by decide) (by decide) (va_recv hK hP (ci := 6) (q0 := 0) rfl rfl) rfl hl.1 rfl (Nat.le_of_ble_eq_true rfl) dX6_road_65 ⟨Nat.le_of_ble_eq_true rfl, Nat.le_of_ble_eq_true rfl⟩ (fun r_6 u H locs hw hP hD hS => ?_)
              subst hw
              have hP : va_P D vwCl [(a0_now, .inr (0, [.ref a0_now_counts, .ref a0_now_roads, .ref a0_now_bridges, .ref a0_now_waggons, .ref a0_now_parts, .ref a0_now_settings, .ref a0_now_trip, .int 0])), (a0_now_counts, .inl (E 0, 4, .inl (fun _ => 0))), (a0_now_roads, .inl (E 0, 168, .inl (fun _ => 0))), (a0, .inr (6, [.ref a0_now, .ref a0_kept, .int 0, .ref a0_ways, .ref a0_shelves, .ref a0_tape, .ref a0_reader, .ref a0_refusals, .ref a0_bestPack]))] H := hP
              have hD : va_D A [(a0_now, .inr (0, [.ref a0_now_counts, .ref a0_now_roads, .ref a0_now_bridges, .ref a0_now_waggons, .ref a0_now_parts, .ref a0_now_settings, .ref a0_now_trip, .int 0])), (a0_now_counts, .inl (E 0, 4, .inl (fun _ => 0))), (a0_now_roads, .inl (E 0, 168, .inl (fun _ => 0))), (a0, .inr (6, [.ref a0_now, .ref a0_kept, .int 0, .ref a0_ways, .ref a0_shelves, .ref a0_tape, .ref a0_reader, .ref a0_refusals, .ref a0_bestPack]))] := hD
              refine W.widen (k := 0) (n := 0) (Nat.le_refl _) (Nat.le_refl _) ?_
              refine W.widen (k := 0) (n := 0) (Nat.le_of_ble_eq_true rfl) (Nat.le_of_ble_eq_true rfl) ?_
              exact W.iret (v := (-2)) hx hb hr (fun t ht hW => ⟨⟨(-2), (), rfl, by unfold fX6_road; rw [if_neg c_1, if_neg c_2, if_neg c_3, if_neg c_4, if_neg c_5, if_pos c_6], ⟨by rw [ht]; exact hP.sub [] rfl, hD.sub [] (by decide) rfl⟩⟩, hS.F ht⟩) hS.2.2 dX6_road_68
            · refine lv_iload hx hb dX6_road_51 (lv_at hl 6 rfl) ?_
              refine lv_iconst (v := 0) hx hb dX6_road_53 (by decide) ?_
              refine lv_bipush (v := 15) hx hb dX6_road_54 (by decide) ?_
              refine oh_pS (As := [.int v_f, .int 0, .int 15]) (rest := []) (v := fX6_within v_f 0 15) ⟨hx, hb, hml, hown, htg⟩ (c_X6_within l D E G v_f 0 15) (va_cwS 3 htg (oh_gS q_293 q_294 q_66 q_295) rfl rfl rfl pdX6_within ⟨Nat.le_of_ble_eq_true rfl, Nat.le_of_ble_eq_true rfl⟩) hK (hP.sub (ws' := []) [] rfl) hG hS rfl hl.1 rfl (Nat.le_of_ble_eq_true rfl) dX6_road_56 ⟨Nat.le_of_ble_eq_true rfl, Nat.le_of_ble_eq_true rfl⟩ ?_
              refine lv_if_ne (tgt := 69) hx hb dX6_road_59 (by decide) (fun (c_7 : ¬ ((fX6_within v_f 0 15) = 0)) => ?_) (fun (c_7 : (fX6_within v_f 0 15) = 0) => ?_)
              · refine lv_aload_n hx hb dX6_road_69 rfl (lv_at hl 0 rfl) ?_
                refine va_get (D := D) (ci := 6) (v := .ref a0_now) (C := RX6) (T := TX6) (N := 9) hx hb htg ig_6 hown hK hP 0 rfl rfl 0 (by decide) (htg _ q_258) (fun _ h9 => h9) rfl dX6_road_70 ?_
                refine lv_iconst (v := 0) hx hb dX6_road_73 (by decide) ?_
                refine oh_pV (As := [.int 0]) (rest := []) (v := 1) ⟨hx, hb, hml, hown, htg⟩ (c_X0_hasRoom0 l D E G a0_now a0_now_counts a0_now_roads a0_now_bridges a0_now_waggons a0_now_parts a0_now_settings a0_now_trip) (cwV 1 htg (oh_gV q_416 q_417 q_418 q_67 q_419) rfl rfl rfl pdVX0_hasRoom ⟨Nat.le_of_ble_eq_true rfl, Nat.le_of_ble_eq_true rfl⟩) hK (hP.sub (ws' := [(a0_now, .inr (0, [.ref a0_now_counts, .ref a0_now_roads, .ref a0_now_bridges, .ref a0_now_waggons, .ref a0_now_parts, .ref a0_now_settings, .ref a0_now_trip, .int 0])), (a0_now_counts, .inl (E 0, 4, .inl (fun _ => 0)))]) [1, 2] rfl) hG hS (va_recv hK hP (ci := 0) (q0 := 1) rfl rfl) rfl hl.1 rfl (Nat.le_of_ble_eq_true rfl) dX6_road_74 ⟨Nat.le_of_ble_eq_true rfl, Nat.le_of_ble_eq_true rfl⟩ ?_
                refine lv_if_ne (tgt := 87) hx hb dX6_road_77 (by decide) (fun _ => ?_) (fun c => absurd c (show ¬ ((1 : Int32) = 0) from by decide))
                refine lv_aload_n hx hb dX6_road_87 rfl (lv_at hl 0 rfl) ?_
                refine va_get (D := D) (ci := 6) (v := .ref a0_now) (C := RX6) (T := TX6) (N := 9) hx hb htg ig_6 hown hK hP 0 rfl rfl 0 (by decide) (htg _ q_258) (fun _ h9 => h9) rfl dX6_road_88 ?_
                refine lv_iload_n hx hb dX6_road_91 rfl (lv_at hl 1 rfl) ?_
                refine lv_iload_n hx hb dX6_road_92 rfl (lv_at hl 2 rfl) ?_
                refine lv_iload_n hx hb dX6_road_93 rfl (lv_at hl 3 rfl) ?_
                refine lv_iload hx hb dX6_road_94 (lv_at hl 4 rfl) ?_
                refine lv_iload hx hb dX6_road_96 (lv_at hl 5 rfl) ?_
                refine lv_iload hx hb dX6_road_98 (lv_at hl 6 rfl) ?_
                refine oh_mV (As := [.int v_a, .int v_b, .int v_c, .int v_d, .int v_e, .int v_f]) (rest := []) (wr := [(a0, .inr (6, [.ref a0_now, .ref a0_kept, .int 0, .ref a0_ways, .ref a0_shelves, .ref a0_tape, .ref a0_reader, .ref a0_refusals, .ref a0_bestPack])), (a0_refusals, .inl (E 0, 5, .inl (fun _ => 0)))]) ⟨hx, hb, hml, hown, htg⟩ (c_X0_addRoad l D E G s.heap.size a0_now v_a v_b v_c v_d v_e v_f a0_now_counts a0_now_roads a0_now_bridges a0_now_waggons a0_now_parts a0_now_settings a0_now_trip) (cwV 6 htg (oh_gV q_420 q_421 q_422 q_67 q_423) rfl rfl rfl pdVX0_addRoad ⟨Nat.le_of_ble_eq_true rfl, Nat.le_of_ble_eq_true rfl⟩) hK hP hD hG hS hA [1, 2, 3] [0, 4] rfl rfl (by decide) (by decide) (by decide) (va_recv hK hP (ci := 0) (q0 := 1) rfl rfl) rfl hl.1 rfl (Nat.le_of_ble_eq_true rfl) dX6_road_100 ⟨Nat.le_of_ble_eq_true rfl, Nat.le_of_ble_eq_true rfl⟩ (fun r_7 u H locs hw hP hD hS => ?_)
                subst hw
                have hP : va_P D vwCl [(a0, .inr (6, [.ref a0_now, .ref a0_kept, .int 0, .ref a0_ways, .ref a0_shelves, .ref a0_tape, .ref a0_reader, .ref a0_refusals, .ref a0_bestPack])), (a0_refusals, .inl (E 0, 5, .inl (fun _ => 0)))] H := hP
                have hD : va_D A [(a0, .inr (6, [.ref a0_now, .ref a0_kept, .int 0, .ref a0_ways, .ref a0_shelves, .ref a0_tape, .ref a0_reader, .ref a0_refusals, .ref a0_bestPack])), (a0_refusals, .inl (E 0, 5, .inl (fun _ => 0)))] := hD
                refine W.widen (k := 0) (n := 0) (Nat.le_refl _) (Nat.le_refl _) ?_
                refine W.widen (k := 0) (n := 0) (Nat.le_of_ble_eq_true rfl) (Nat.le_of_ble_eq_true rfl) ?_
                exact W.iret (v := 0) hx hb hr (fun t ht hW => ⟨⟨0, (), rfl, by unfold fX6_road; rw [if_neg c_1, if_neg c_2, if_neg c_3, if_neg c_4, if_neg c_5, if_neg c_6, if_neg c_7], ⟨by rw [ht]; exact hP.sub [] rfl, hD.sub [] (by decide) rfl⟩⟩, hS.F ht⟩) hS.2.2 dX6_road_103
              · refine lv_aload_n hx hb dX6_road_62 rfl (lv_at hl 0 rfl) ?_
                refine lv_bipush (v := (-2)) hx hb dX6_road_63 (by decide) ?_
                refine oh_mV (As := [.int (-2)]) (rest := []) (wr := [(a0_now, .inr (0, [.ref a0_now_counts, .ref a0_now_roads, .ref a0_now_bridges, .ref a0_now_waggons, .ref a0_now_parts, .ref a0_now_settings, .ref a0_now_trip, .int 0])), (a0_now_counts, .inl (E 0, 4, .inl (fun _ => 0))), (a0_now_roads, .inl (E 0, 168, .inl (fun _ => 0)))]) ⟨hx, hb, hml, hown, htg⟩ (c_X6_refuse l D E G s.heap.size a0 (-2) a0_now a0_kept a0_ways a0_shelves a0_tape a0_reader a0_refusals a0_bestPack) (cwV 1 htg (oh_gV q_296 q_298 q_0 q_66 q_299) rfl rfl rfl pdVX6_refuse ⟨Nat.le_of_ble_eq_true rfl, Nat.le_of_ble_eq_true rfl⟩) hK hP hD hG hS hA [0, 4] [1, 2, 3] rfl rfl (by decide) (by decide) (by decide) (va_recv hK hP (ci := 6) (q0 := 0) rfl rfl) rfl hl.1 rfl (Nat.le_of_ble_eq_true rfl) dX6_road_65 ⟨Nat.le_of_ble_eq_true rfl, Nat.le_of_ble_eq_true rfl⟩ (fun r_8 u H locs hw hP hD hS => ?_)
                subst hw
                have hP : va_P D vwCl [(a0_now, .inr (0, [.ref a0_now_counts, .ref a0_now_roads, .ref a0_now_bridges, .ref a0_now_waggons, .ref a0_now_parts, .ref a0_now_settings, .ref a0_now_trip, .int 0])), (a0_now_counts, .inl (E 0, 4, .inl (fun _ => 0))), (a0_now_roads, .inl (E 0, 168, .inl (fun _ => 0))), (a0, .inr (6, [.ref a0_now, .ref a0_kept, .int 0, .ref a0_ways, .ref a0_shelves, .ref a0_tape, .ref a0_reader, .ref a0_refusals, .ref a0_bestPack]))] H := hP
                have hD : va_D A [(a0_now, .inr (0, [.ref a0_now_counts, .ref a0_now_roads, .ref a0_now_bridges, .ref a0_now_waggons, .ref a0_now_parts, .ref a0_now_settings, .ref a0_now_trip, .int 0])), (a0_now_counts, .inl (E 0, 4, .inl (fun _ => 0))), (a0_now_roads, .inl (E 0, 168, .inl (fun _ => 0))), (a0, .inr (6, [.ref a0_now, .ref a0_kept, .int 0, .ref a0_ways, .ref a0_shelves, .ref a0_tape, .ref a0_reader, .ref a0_refusals, .ref a0_bestPack]))] := hD
                refine W.widen (k := 0) (n := 0) (Nat.le_refl _) (Nat.le_refl _) ?_
                refine W.widen (k := 0) (n := 0) (Nat.le_of_ble_eq_true rfl) (Nat.le_of_ble_eq_true rfl) ?_
                exact W.iret (v := (-2)) hx hb hr (fun t ht hW => ⟨⟨(-2), (), rfl, by unfold fX6_road; rw [if_neg c_1, if_neg c_2, if_neg c_3, if_neg c_4, if_neg c_5, if_neg c_6, if_pos c_7], ⟨by rw [ht]; exact hP.sub [] rfl, hD.sub [] (by decide) rfl⟩⟩, hS.F ht⟩) hS.2.2 dX6_road_68
end
section
def fX6_waggon (v_a : Int32) (v_b : Int32) (v_c : Int32) : Int32 :=
  if (fX6_within v_a 2 12) = 0 then (-2) else if (fX6_within v_b 1 9) = 0 then (-2) else if (fX6_within v_c 0 99) = 0 then (-2) else 0
set_option maxHeartbeats 4000000 in
set_option maxRecDepth 100000 in
theorem c_X6_waggon (l : Launch) (D : va_G) (E : Nat → ClassId) (G : Nat → Nat) (sz : Nat) (a0 : Nat) (v_a : Int32) (v_b : Int32) (v_c : Int32) (a0_now : Nat) (a0_kept : Nat) (a0_ways : Nat) (a0_shelves : Nat) (a0_tape : Nat) (a0_reader : Nat) (a0_refusals : Nat) (a0_bestPack : Nat) (a0_now_counts : Nat) (a0_now_roads : Nat) (a0_now_bridges : Nat) (a0_now_waggons : Nat) (a0_now_parts : Nat) (a0_now_settings : Nat) (a0_now_trip : Nat) : Met l yX6_waggon (oh_w yX6_waggon cX6_waggon 4 (some .int)) ({ frames := 2, cells := 0, slots := 0, locals := 44 }) (oh_Pm D E G [.ref a0, .int v_a, .int v_b, .int v_c] [(a0, .inr (6, [.ref a0_now, .ref a0_kept, .int 0, .ref a0_ways, .ref a0_shelves, .ref a0_tape, .ref a0_reader, .ref a0_refusals, .ref a0_bestPack])), (a0_now, .inr (0, [.ref a0_now_counts, .ref a0_now_roads, .ref a0_now_bridges, .ref a0_now_waggons, .ref a0_now_parts, .ref a0_now_settings, .ref a0_now_trip, .int 0])), (a0_now_counts, .inl (E 0, 4, .inl (fun _ => 0))), (a0_now_waggons, .inl (E 0, 15, .inl (fun _ => 0))), (a0_refusals, .inl (E 0, 5, .inl (fun _ => 0)))] sz) (va_Qi (fun r (_ : Unit) => r = fX6_waggon v_a v_b v_c) (oh_B D (va_A [(a0, .inr (6, [.ref a0_now, .ref a0_kept, .int 0, .ref a0_ways, .ref a0_shelves, .ref a0_tape, .ref a0_reader, .ref a0_refusals, .ref a0_bestPack])), (a0_now, .inr (0, [.ref a0_now_counts, .ref a0_now_roads, .ref a0_now_bridges, .ref a0_now_waggons, .ref a0_now_parts, .ref a0_now_settings, .ref a0_now_trip, .int 0])), (a0_now_counts, .inl (E 0, 4, .inl (fun _ => 0))), (a0_now_waggons, .inl (E 0, 15, .inl (fun _ => 0))), (a0_refusals, .inl (E 0, 5, .inl (fun _ => 0)))] sz) (fun _ => [])) (va_A [(a0, .inr (6, [.ref a0_now, .ref a0_kept, .int 0, .ref a0_ways, .ref a0_shelves, .ref a0_tape, .ref a0_reader, .ref a0_refusals, .ref a0_bestPack])), (a0_now, .inr (0, [.ref a0_now_counts, .ref a0_now_roads, .ref a0_now_bridges, .ref a0_now_waggons, .ref a0_now_parts, .ref a0_now_settings, .ref a0_now_trip, .int 0])), (a0_now_counts, .inl (E 0, 4, .inl (fun _ => 0))), (a0_now_waggons, .inl (E 0, 15, .inl (fun _ => 0))), (a0_refusals, .inl (E 0, 5, .inl (fun _ => 0)))] sz)) 0 0 (va_A [(a0, .inr (6, [.ref a0_now, .ref a0_kept, .int 0, .ref a0_ways, .ref a0_shelves, .ref a0_tape, .ref a0_reader, .ref a0_refusals, .ref a0_bestPack])), (a0_now, .inr (0, [.ref a0_now_counts, .ref a0_now_roads, .ref a0_now_bridges, .ref a0_now_waggons, .ref a0_now_parts, .ref a0_now_settings, .ref a0_now_trip, .int 0])), (a0_now_counts, .inl (E 0, 4, .inl (fun _ => 0))), (a0_now_waggons, .inl (E 0, 15, .inl (fun _ => 0))), (a0_refusals, .inl (E 0, 5, .inl (fun _ => 0)))] sz) := by
  refine Met.ofW (cc := cX6_waggon) (maxL := 4) (ret := (some .int)) (by decide) rfl ?_
  intro p e s m args below meth c s₁ B hml hv
  obtain ⟨rfl, hsz, hP, hK, hD0, hG⟩ := hv
  have hx := B.exec
  have hb := B.bytes
  have hr := B.returns
  have hts := atoms_spec (ws := (oh_w yX6_waggon cX6_waggon 4 (some .int))) B.pre
  have htg : ∀ w ∈ oh_t, w.before _ s = true := fun w h => hts w (List.mem_cons_of_mem _ h)
  have hown : s.vm.findClass RX6 = some m.cls := findClass_of_methodNamed B.named
  have hlocks := B.notSynchronized
  subst hsz
  have hD := hD0.self (sz := s.heap.size)
  generalize hAe : va_A [(a0, .inr (6, [.ref a0_now, .ref a0_kept, .int 0, .ref a0_ways, .ref a0_shelves, .ref a0_tape, .ref a0_reader, .ref a0_refusals, .ref a0_bestPack])), (a0_now, .inr (0, [.ref a0_now_counts, .ref a0_now_roads, .ref a0_now_bridges, .ref a0_now_waggons, .ref a0_now_parts, .ref a0_now_settings, .ref a0_now_trip, .int 0])), (a0_now_counts, .inl (E 0, 4, .inl (fun _ => 0))), (a0_now_waggons, .inl (E 0, 15, .inl (fun _ => 0))), (a0_refusals, .inl (E 0, 5, .inl (fun _ => 0)))] s.heap.size = A at hD hG ⊢
  have hA : ∀ q : Nat, s.heap.size ≤ q → A q := fun q h => by rw [← hAe]; exact Or.inr h
  have hS : va_S A s.heap s.heap [] := va_S.rf
  have hP : va_P D vwCl [(a0, .inr (6, [.ref a0_now, .ref a0_kept, .int 0, .ref a0_ways, .ref a0_shelves, .ref a0_tape, .ref a0_reader, .ref a0_refusals, .ref a0_bestPack])), (a0_now, .inr (0, [.ref a0_now_counts, .ref a0_now_roads, .ref a0_now_bridges, .ref a0_now_waggons, .ref a0_now_parts, .ref a0_now_settings, .ref a0_now_trip, .int 0])), (a0_now_counts, .inl (E 0, 4, .inl (fun _ => 0))), (a0_now_waggons, .inl (E 0, 15, .inl (fun _ => 0))), (a0_refusals, .inl (E 0, 5, .inl (fun _ => 0)))] s.heap := hP
  have hl := lv_entry ([.ref a0, .int v_a, .int v_b, .int v_c]) (n := 4) (Nat.le_of_ble_eq_true rfl)
  rw [lg_entry_eq]
  generalize (lg_sl ([.ref a0, .int v_a, .int v_b, .int v_c]) ++ List.replicate (4 - (lg_sl ([.ref a0, .int v_a, .int v_b, .int v_c])).length) Slot.unset).toArray = ls at hl ⊢
  have hl : lv_has ls 4 [(0, .ref a0), (1, .int v_a), (2, .int v_b), (3, .int v_c)] := hl
  refine lv_iload_n hx hb dX6_waggon_0 rfl (lv_at hl 1 rfl) ?_
  refine lv_iconst (v := 2) hx hb dX6_waggon_1 (by decide) ?_
  refine lv_bipush (v := 12) hx hb dX6_waggon_2 (by decide) ?_
  refine oh_pS (As := [.int v_a, .int 2, .int 12]) (rest := []) (v := fX6_within v_a 2 12) ⟨hx, hb, hml, hown, htg⟩ (c_X6_within l D E G v_a 2 12) (va_cwS 3 htg (oh_gS q_293 q_294 q_66 q_295) rfl rfl rfl pdX6_within ⟨Nat.le_of_ble_eq_true rfl, Nat.le_of_ble_eq_true rfl⟩) hK (hP.sub (ws' := []) [] rfl) hG hS rfl hl.1 rfl (Nat.le_of_ble_eq_true rfl) dX6_waggon_4 ⟨Nat.le_of_ble_eq_true rfl, Nat.le_of_ble_eq_true rfl⟩ ?_
  refine lv_if_eq (tgt := 30) hx hb dX6_waggon_7 (by decide) (fun (c_1 : (fX6_within v_a 2 12) = 0) => ?_) (fun (c_1 : ¬ ((fX6_within v_a 2 12) = 0)) => ?_)
  · refine lv_aload_n hx hb dX6_waggon_30 rfl (lv_at hl 0 rfl) ?_
    refine lv_bipush (v := (-2)) hx hb dX6_waggon_31 (by decide) ?_
    refine oh_mV (As := [.int (-2)]) (rest := []) (wr := [(a0_now, .inr (0, [.ref a0_now_counts, .ref a0_now_roads, .ref a0_now_bridges, .ref a0_now_waggons, .ref a0_now_parts, .ref a0_now_settings, .ref a0_now_trip, .int 0])), (a0_now_counts, .inl (E 0, 4, .inl (fun _ => 0))), (a0_now_waggons, .inl (E 0, 15, .inl (fun _ => 0)))]) ⟨hx, hb, hml, hown, htg⟩ (c_X6_refuse l D E G s.heap.size a0 (-2) a0_now a0_kept a0_ways a0_shelves a0_tape a0_reader a0_refusals a0_bestPack) (cwV 1 htg (oh_gV q_296 q_298 q_0 q_66 q_299) rfl rfl rfl pdVX6_refuse ⟨Nat.le_of_ble_eq_true rfl, Nat.le_of_ble_eq_true rfl⟩) hK hP hD hG hS hA [0, 4] [1, 2, 3] rfl rfl (by decide) (by decide) (by decide) (va_recv hK hP (ci := 6) (q0 := 0) rfl rfl) rfl hl.1 rfl (Nat.le_of_ble_eq_true rfl) dX6_waggon_33 ⟨Nat.le_of_ble_eq_true rfl, Nat.le_of_ble_eq_true rfl⟩ (fun r_1 u H locs hw hP hD hS => ?_)
    subst hw
    have hP : va_P D vwCl [(a0_now, .inr (0, [.ref a0_now_counts, .ref a0_now_roads, .ref a0_now_bridges, .ref a0_now_waggons, .ref a0_now_parts, .ref a0_now_settings, .ref a0_now_trip, .int 0])), (a0_now_counts, .inl (E 0, 4, .inl (fun _ => 0))), (a0_now_waggons, .inl (E 0, 15, .inl (fun _ => 0))), (a0, .inr (6, [.ref a0_now, .ref a0_kept, .int 0, .ref a0_ways, .ref a0_shelves, .ref a0_tape, .ref a0_reader, .ref a0_refusals, .ref a0_bestPack]))] H := hP
    have hD : va_D A [(a0_now, .inr (0, [.ref a0_now_counts, .ref a0_now_roads, .ref a0_now_bridges, .ref a0_now_waggons, .ref a0_now_parts, .ref a0_now_settings, .ref a0_now_trip, .int 0])), (a0_now_counts, .inl (E 0, 4, .inl (fun _ => 0))), (a0_now_waggons, .inl (E 0, 15, .inl (fun _ => 0))), (a0, .inr (6, [.ref a0_now, .ref a0_kept, .int 0, .ref a0_ways, .ref a0_shelves, .ref a0_tape, .ref a0_reader, .ref a0_refusals, .ref a0_bestPack]))] := hD
    refine W.widen (k := 0) (n := 0) (Nat.le_refl _) (Nat.le_refl _) ?_
    refine W.widen (k := 0) (n := 0) (Nat.le_of_ble_eq_true rfl) (Nat.le_of_ble_eq_true rfl) ?_
    exact W.iret (v := (-2)) hx hb hr (fun t ht hW => ⟨⟨(-2), (), rfl, by unfold fX6_waggon; rw [if_pos c_1], ⟨by rw [ht]; exact hP.sub [] rfl, hD.sub [] (by decide) rfl⟩⟩, hS.F ht⟩) hS.2.2 dX6_waggon_36
  · refine lv_iload_n hx hb dX6_waggon_10 rfl (lv_at hl 2 rfl) ?_
    refine lv_iconst (v := 1) hx hb dX6_waggon_11 (by decide) ?_
    refine lv_bipush (v := 9) hx hb dX6_waggon_12 (by decide) ?_
    refine oh_pS (As := [.int v_b, .int 1, .int 9]) (rest := []) (v := fX6_within v_b 1 9) ⟨hx, hb, hml, hown, htg⟩ (c_X6_within l D E G v_b 1 9) (va_cwS 3 htg (oh_gS q_293 q_294 q_66 q_295) rfl rfl rfl pdX6_within ⟨Nat.le_of_ble_eq_true rfl, Nat.le_of_ble_eq_true rfl⟩) hK (hP.sub (ws' := []) [] rfl) hG hS rfl hl.1 rfl (Nat.le_of_ble_eq_true rfl) dX6_waggon_14 ⟨Nat.le_of_ble_eq_true rfl, Nat.le_of_ble_eq_true rfl⟩ ?_
    refine lv_if_eq (tgt := 30) hx hb dX6_waggon_17 (by decide) (fun (c_2 : (fX6_within v_b 1 9) = 0) => ?_) (fun (c_2 : ¬ ((fX6_within v_b 1 9) = 0)) => ?_)
    · refine lv_aload_n hx hb dX6_waggon_30 rfl (lv_at hl 0 rfl) ?_
      refine lv_bipush (v := (-2)) hx hb dX6_waggon_31 (by decide) ?_
      refine oh_mV (As := [.int (-2)]) (rest := []) (wr := [(a0_now, .inr (0, [.ref a0_now_counts, .ref a0_now_roads, .ref a0_now_bridges, .ref a0_now_waggons, .ref a0_now_parts, .ref a0_now_settings, .ref a0_now_trip, .int 0])), (a0_now_counts, .inl (E 0, 4, .inl (fun _ => 0))), (a0_now_waggons, .inl (E 0, 15, .inl (fun _ => 0)))]) ⟨hx, hb, hml, hown, htg⟩ (c_X6_refuse l D E G s.heap.size a0 (-2) a0_now a0_kept a0_ways a0_shelves a0_tape a0_reader a0_refusals a0_bestPack) (cwV 1 htg (oh_gV q_296 q_298 q_0 q_66 q_299) rfl rfl rfl pdVX6_refuse ⟨Nat.le_of_ble_eq_true rfl, Nat.le_of_ble_eq_true rfl⟩) hK hP hD hG hS hA [0, 4] [1, 2, 3] rfl rfl (by decide) (by decide) (by decide) (va_recv hK hP (ci := 6) (q0 := 0) rfl rfl) rfl hl.1 rfl (Nat.le_of_ble_eq_true rfl) dX6_waggon_33 ⟨Nat.le_of_ble_eq_true rfl, Nat.le_of_ble_eq_true rfl⟩ (fun r_2 u H locs hw hP hD hS => ?_)
      subst hw
      have hP : va_P D vwCl [(a0_now, .inr (0, [.ref a0_now_counts, .ref a0_now_roads, .ref a0_now_bridges, .ref a0_now_waggons, .ref a0_now_parts, .ref a0_now_settings, .ref a0_now_trip, .int 0])), (a0_now_counts, .inl (E 0, 4, .inl (fun _ => 0))), (a0_now_waggons, .inl (E 0, 15, .inl (fun _ => 0))), (a0, .inr (6, [.ref a0_now, .ref a0_kept, .int 0, .ref a0_ways, .ref a0_shelves, .ref a0_tape, .ref a0_reader, .ref a0_refusals, .ref a0_bestPack]))] H := hP
      have hD : va_D A [(a0_now, .inr (0, [.ref a0_now_counts, .ref a0_now_roads, .ref a0_now_bridges, .ref a0_now_waggons, .ref a0_now_parts, .ref a0_now_settings, .ref a0_now_trip, .int 0])), (a0_now_counts, .inl (E 0, 4, .inl (fun _ => 0))), (a0_now_waggons, .inl (E 0, 15, .inl (fun _ => 0))), (a0, .inr (6, [.ref a0_now, .ref a0_kept, .int 0, .ref a0_ways, .ref a0_shelves, .ref a0_tape, .ref a0_reader, .ref a0_refusals, .ref a0_bestPack]))] := hD
      refine W.widen (k := 0) (n := 0) (Nat.le_refl _) (Nat.le_refl _) ?_
      refine W.widen (k := 0) (n := 0) (Nat.le_of_ble_eq_true rfl) (Nat.le_of_ble_eq_true rfl) ?_
      exact W.iret (v := (-2)) hx hb hr (fun t ht hW => ⟨⟨(-2), (), rfl, by unfold fX6_waggon; rw [if_neg c_1, if_pos c_2], ⟨by rw [ht]; exact hP.sub [] rfl, hD.sub [] (by decide) rfl⟩⟩, hS.F ht⟩) hS.2.2 dX6_waggon_36
    · refine lv_iload_n hx hb dX6_waggon_20 rfl (lv_at hl 3 rfl) ?_
      refine lv_iconst (v := 0) hx hb dX6_waggon_21 (by decide) ?_
      refine lv_bipush (v := 99) hx hb dX6_waggon_22 (by decide) ?_
      refine oh_pS (As := [.int v_c, .int 0, .int 99]) (rest := []) (v := fX6_within v_c 0 99) ⟨hx, hb, hml, hown, htg⟩ (c_X6_within l D E G v_c 0 99) (va_cwS 3 htg (oh_gS q_293 q_294 q_66 q_295) rfl rfl rfl pdX6_within ⟨Nat.le_of_ble_eq_true rfl, Nat.le_of_ble_eq_true rfl⟩) hK (hP.sub (ws' := []) [] rfl) hG hS rfl hl.1 rfl (Nat.le_of_ble_eq_true rfl) dX6_waggon_24 ⟨Nat.le_of_ble_eq_true rfl, Nat.le_of_ble_eq_true rfl⟩ ?_
      refine lv_if_ne (tgt := 37) hx hb dX6_waggon_27 (by decide) (fun (c_3 : ¬ ((fX6_within v_c 0 99) = 0)) => ?_) (fun (c_3 : (fX6_within v_c 0 99) = 0) => ?_)
      · refine lv_aload_n hx hb dX6_waggon_37 rfl (lv_at hl 0 rfl) ?_
        refine va_get (D := D) (ci := 6) (v := .ref a0_now) (C := RX6) (T := TX6) (N := 9) hx hb htg ig_6 hown hK hP 0 rfl rfl 0 (by decide) (htg _ q_258) (fun _ h9 => h9) rfl dX6_waggon_38 ?_
        refine lv_iconst (v := 2) hx hb dX6_waggon_41 (by decide) ?_
        refine oh_pV (As := [.int 2]) (rest := []) (v := 1) ⟨hx, hb, hml, hown, htg⟩ (c_X0_hasRoom2 l D E G a0_now a0_now_counts a0_now_roads a0_now_bridges a0_now_waggons a0_now_parts a0_now_settings a0_now_trip) (cwV 1 htg (oh_gV q_416 q_417 q_418 q_67 q_419) rfl rfl rfl pdVX0_hasRoom ⟨Nat.le_of_ble_eq_true rfl, Nat.le_of_ble_eq_true rfl⟩) hK (hP.sub (ws' := [(a0_now, .inr (0, [.ref a0_now_counts, .ref a0_now_roads, .ref a0_now_bridges, .ref a0_now_waggons, .ref a0_now_parts, .ref a0_now_settings, .ref a0_now_trip, .int 0])), (a0_now_counts, .inl (E 0, 4, .inl (fun _ => 0)))]) [1, 2] rfl) hG hS (va_recv hK hP (ci := 0) (q0 := 1) rfl rfl) rfl hl.1 rfl (Nat.le_of_ble_eq_true rfl) dX6_waggon_42 ⟨Nat.le_of_ble_eq_true rfl, Nat.le_of_ble_eq_true rfl⟩ ?_
        refine lv_if_ne (tgt := 55) hx hb dX6_waggon_45 (by decide) (fun _ => ?_) (fun c => absurd c (show ¬ ((1 : Int32) = 0) from by decide))
        refine lv_aload_n hx hb dX6_waggon_55 rfl (lv_at hl 0 rfl) ?_
        refine va_get (D := D) (ci := 6) (v := .ref a0_now) (C := RX6) (T := TX6) (N := 9) hx hb htg ig_6 hown hK hP 0 rfl rfl 0 (by decide) (htg _ q_258) (fun _ h9 => h9) rfl dX6_waggon_56 ?_
        refine lv_iload_n hx hb dX6_waggon_59 rfl (lv_at hl 1 rfl) ?_
        refine lv_iload_n hx hb dX6_waggon_60 rfl (lv_at hl 2 rfl) ?_
        refine lv_iload_n hx hb dX6_waggon_61 rfl (lv_at hl 3 rfl) ?_
        refine oh_mV (As := [.int v_a, .int v_b, .int v_c]) (rest := []) (wr := [(a0, .inr (6, [.ref a0_now, .ref a0_kept, .int 0, .ref a0_ways, .ref a0_shelves, .ref a0_tape, .ref a0_reader, .ref a0_refusals, .ref a0_bestPack])), (a0_refusals, .inl (E 0, 5, .inl (fun _ => 0)))]) ⟨hx, hb, hml, hown, htg⟩ (c_X0_addWaggon l D E G s.heap.size a0_now v_a v_b v_c a0_now_counts a0_now_roads a0_now_bridges a0_now_waggons a0_now_parts a0_now_settings a0_now_trip) (cwV 3 htg (oh_gV q_452 q_453 q_454 q_67 q_455) rfl rfl rfl pdVX0_addWaggon ⟨Nat.le_of_ble_eq_true rfl, Nat.le_of_ble_eq_true rfl⟩) hK hP hD hG hS hA [1, 2, 3] [0, 4] rfl rfl (by decide) (by decide) (by decide) (va_recv hK hP (ci := 0) (q0 := 1) rfl rfl) rfl hl.1 rfl (Nat.le_of_ble_eq_true rfl) dX6_waggon_62 ⟨Nat.le_of_ble_eq_true rfl, Nat.le_of_ble_eq_true rfl⟩ (fun r_3 u H locs hw hP hD hS => ?_)
        subst hw
        have hP : va_P D vwCl [(a0, .inr (6, [.ref a0_now, .ref a0_kept, .int 0, .ref a0_ways, .ref a0_shelves, .ref a0_tape, .ref a0_reader, .ref a0_refusals, .ref a0_bestPack])), (a0_refusals, .inl (E 0, 5, .inl (fun _ => 0)))] H := hP
        have hD : va_D A [(a0, .inr (6, [.ref a0_now, .ref a0_kept, .int 0, .ref a0_ways, .ref a0_shelves, .ref a0_tape, .ref a0_reader, .ref a0_refusals, .ref a0_bestPack])), (a0_refusals, .inl (E 0, 5, .inl (fun _ => 0)))] := hD
        refine W.widen (k := 0) (n := 0) (Nat.le_refl _) (Nat.le_refl _) ?_
        refine W.widen (k := 0) (n := 0) (Nat.le_of_ble_eq_true rfl) (Nat.le_of_ble_eq_true rfl) ?_
        exact W.iret (v := 0) hx hb hr (fun t ht hW => ⟨⟨0, (), rfl, by unfold fX6_waggon; rw [if_neg c_1, if_neg c_2, if_neg c_3], ⟨by rw [ht]; exact hP.sub [] rfl, hD.sub [] (by decide) rfl⟩⟩, hS.F ht⟩) hS.2.2 dX6_waggon_65
      · refine lv_aload_n hx hb dX6_waggon_30 rfl (lv_at hl 0 rfl) ?_
        refine lv_bipush (v := (-2)) hx hb dX6_waggon_31 (by decide) ?_
        refine oh_mV (As := [.int (-2)]) (rest := []) (wr := [(a0_now, .inr (0, [.ref a0_now_counts, .ref a0_now_roads, .ref a0_now_bridges, .ref a0_now_waggons, .ref a0_now_parts, .ref a0_now_settings, .ref a0_now_trip, .int 0])), (a0_now_counts, .inl (E 0, 4, .inl (fun _ => 0))), (a0_now_waggons, .inl (E 0, 15, .inl (fun _ => 0)))]) ⟨hx, hb, hml, hown, htg⟩ (c_X6_refuse l D E G s.heap.size a0 (-2) a0_now a0_kept a0_ways a0_shelves a0_tape a0_reader a0_refusals a0_bestPack) (cwV 1 htg (oh_gV q_296 q_298 q_0 q_66 q_299) rfl rfl rfl pdVX6_refuse ⟨Nat.le_of_ble_eq_true rfl, Nat.le_of_ble_eq_true rfl⟩) hK hP hD hG hS hA [0, 4] [1, 2, 3] rfl rfl (by decide) (by decide) (by decide) (va_recv hK hP (ci := 6) (q0 := 0) rfl rfl) rfl hl.1 rfl (Nat.le_of_ble_eq_true rfl) dX6_waggon_33 ⟨Nat.le_of_ble_eq_true rfl, Nat.le_of_ble_eq_true rfl⟩ (fun r_4 u H locs hw hP hD hS => ?_)
        subst hw
        have hP : va_P D vwCl [(a0_now, .inr (0, [.ref a0_now_counts, .ref a0_now_roads, .ref a0_now_bridges, .ref a0_now_waggons, .ref a0_now_parts, .ref a0_now_settings, .ref a0_now_trip, .int 0])), (a0_now_counts, .inl (E 0, 4, .inl (fun _ => 0))), (a0_now_waggons, .inl (E 0, 15, .inl (fun _ => 0))), (a0, .inr (6, [.ref a0_now, .ref a0_kept, .int 0, .ref a0_ways, .ref a0_shelves, .ref a0_tape, .ref a0_reader, .ref a0_refusals, .ref a0_bestPack]))] H := hP
        have hD : va_D A [(a0_now, .inr (0, [.ref a0_now_counts, .ref a0_now_roads, .ref a0_now_bridges, .ref a0_now_waggons, .ref a0_now_parts, .ref a0_now_settings, .ref a0_now_trip, .int 0])), (a0_now_counts, .inl (E 0, 4, .inl (fun _ => 0))), (a0_now_waggons, .inl (E 0, 15, .inl (fun _ => 0))), (a0, .inr (6, [.ref a0_now, .ref a0_kept, .int 0, .ref a0_ways, .ref a0_shelves, .ref a0_tape, .ref a0_reader, .ref a0_refusals, .ref a0_bestPack]))] := hD
        refine W.widen (k := 0) (n := 0) (Nat.le_refl _) (Nat.le_refl _) ?_
        refine W.widen (k := 0) (n := 0) (Nat.le_of_ble_eq_true rfl) (Nat.le_of_ble_eq_true rfl) ?_
        exact W.iret (v := (-2)) hx hb hr (fun t ht hW => ⟨⟨(-2), (), rfl, by unfold fX6_waggon; rw [if_neg c_1, if_neg c_2, if_pos c_3], ⟨by rw [ht]; exact hP.sub [] rfl, hD.sub [] (by decide) rfl⟩⟩, hS.F ht⟩) hS.2.2 dX6_waggon_36
def fX6_part (v_a : Int32) (v_b : Int32) : Int32 :=
  if (fX6_within v_a 1 99) = 0 then (-2) else if (fX6_within v_b 0 99) = 0 then (-2) else 0
set_option maxHeartbeats 4000000 in
set_option maxRecDepth 100000 in
theorem c_X6_part (l : Launch) (D : va_G) (E : Nat → ClassId) (G : Nat → Nat) (sz : Nat) (a0 : Nat) (v_a : Int32) (v_b : Int32) (a0_now : Nat) (a0_kept : Nat) (a0_ways : Nat) (a0_shelves : Nat) (a0_tape : Nat) (a0_reader : Nat) (a0_refusals : Nat) (a0_bestPack : Nat) (a0_now_counts : Nat) (a0_now_roads : Nat) (a0_now_bridges : Nat) (a0_now_waggons : Nat) (a0_now_parts : Nat) (a0_now_settings : Nat) (a0_now_trip : Nat) : Met l yX6_part (oh_w yX6_part cX6_part 3 (some .int)) ({ frames := 2, cells := 0, slots := 0, locals := 44 }) (oh_Pm D E G [.ref a0, .int v_a, .int v_b] [(a0, .inr (6, [.ref a0_now, .ref a0_kept, .int 0, .ref a0_ways, .ref a0_shelves, .ref a0_tape, .ref a0_reader, .ref a0_refusals, .ref a0_bestPack])), (a0_now, .inr (0, [.ref a0_now_counts, .ref a0_now_roads, .ref a0_now_bridges, .ref a0_now_waggons, .ref a0_now_parts, .ref a0_now_settings, .ref a0_now_trip, .int 0])), (a0_now_counts, .inl (E 0, 4, .inl (fun _ => 0))), (a0_now_parts, .inl (E 0, 10, .inl (fun _ => 0))), (a0_refusals, .inl (E 0, 5, .inl (fun _ => 0)))] sz) (va_Qi (fun r (_ : Unit) => r = fX6_part v_a v_b) (oh_B D (va_A [(a0, .inr (6, [.ref a0_now, .ref a0_kept, .int 0, .ref a0_ways, .ref a0_shelves, .ref a0_tape, .ref a0_reader, .ref a0_refusals, .ref a0_bestPack])), (a0_now, .inr (0, [.ref a0_now_counts, .ref a0_now_roads, .ref a0_now_bridges, .ref a0_now_waggons, .ref a0_now_parts, .ref a0_now_settings, .ref a0_now_trip, .int 0])), (a0_now_counts, .inl (E 0, 4, .inl (fun _ => 0))), (a0_now_parts, .inl (E 0, 10, .inl (fun _ => 0))), (a0_refusals, .inl (E 0, 5, .inl (fun _ => 0)))] sz) (fun _ => [])) (va_A [(a0, .inr (6, [.ref a0_now, .ref a0_kept, .int 0, .ref a0_ways, .ref a0_shelves, .ref a0_tape, .ref a0_reader, .ref a0_refusals, .ref a0_bestPack])), (a0_now, .inr (0, [.ref a0_now_counts, .ref a0_now_roads, .ref a0_now_bridges, .ref a0_now_waggons, .ref a0_now_parts, .ref a0_now_settings, .ref a0_now_trip, .int 0])), (a0_now_counts, .inl (E 0, 4, .inl (fun _ => 0))), (a0_now_parts, .inl (E 0, 10, .inl (fun _ => 0))), (a0_refusals, .inl (E 0, 5, .inl (fun _ => 0)))] sz)) 0 0 (va_A [(a0, .inr (6, [.ref a0_now, .ref a0_kept, .int 0, .ref a0_ways, .ref a0_shelves, .ref a0_tape, .ref a0_reader, .ref a0_refusals, .ref a0_bestPack])), (a0_now, .inr (0, [.ref a0_now_counts, .ref a0_now_roads, .ref a0_now_bridges, .ref a0_now_waggons, .ref a0_now_parts, .ref a0_now_settings, .ref a0_now_trip, .int 0])), (a0_now_counts, .inl (E 0, 4, .inl (fun _ => 0))), (a0_now_parts, .inl (E 0, 10, .inl (fun _ => 0))), (a0_refusals, .inl (E 0, 5, .inl (fun _ => 0)))] sz) := by
  refine Met.ofW (cc := cX6_part) (maxL := 3) (ret := (some .int)) (by decide) rfl ?_
  intro p e s m args below meth c s₁ B hml hv
  obtain ⟨rfl, hsz, hP, hK, hD0, hG⟩ := hv
  have hx := B.exec
  have hb := B.bytes
  have hr := B.returns
  have hts := atoms_spec (ws := (oh_w yX6_part cX6_part 3 (some .int))) B.pre
  have htg : ∀ w ∈ oh_t, w.before _ s = true := fun w h => hts w (List.mem_cons_of_mem _ h)
  have hown : s.vm.findClass RX6 = some m.cls := findClass_of_methodNamed B.named
  have hlocks := B.notSynchronized
  subst hsz
  have hD := hD0.self (sz := s.heap.size)
  generalize hAe : va_A [(a0, .inr (6, [.ref a0_now, .ref a0_kept, .int 0, .ref a0_ways, .ref a0_shelves, .ref a0_tape, .ref a0_reader, .ref a0_refusals, .ref a0_bestPack])), (a0_now, .inr (0, [.ref a0_now_counts, .ref a0_now_roads, .ref a0_now_bridges, .ref a0_now_waggons, .ref a0_now_parts, .ref a0_now_settings, .ref a0_now_trip, .int 0])), (a0_now_counts, .inl (E 0, 4, .inl (fun _ => 0))), (a0_now_parts, .inl (E 0, 10, .inl (fun _ => 0))), (a0_refusals, .inl (E 0, 5, .inl (fun _ => 0)))] s.heap.size = A at hD hG ⊢
  have hA : ∀ q : Nat, s.heap.size ≤ q → A q := fun q h => by rw [← hAe]; exact Or.inr h
  have hS : va_S A s.heap s.heap [] := va_S.rf
  have hP : va_P D vwCl [(a0, .inr (6, [.ref a0_now, .ref a0_kept, .int 0, .ref a0_ways, .ref a0_shelves, .ref a0_tape, .ref a0_reader, .ref a0_refusals, .ref a0_bestPack])), (a0_now, .inr (0, [.ref a0_now_counts, .ref a0_now_roads, .ref a0_now_bridges, .ref a0_now_waggons, .ref a0_now_parts, .ref a0_now_settings, .ref a0_now_trip, .int 0])), (a0_now_counts, .inl (E 0, 4, .inl (fun _ => 0))), (a0_now_parts, .inl (E 0, 10, .inl (fun _ => 0))), (a0_refusals, .inl (E 0, 5, .inl (fun _ => 0)))] s.heap := hP
  have hl := lv_entry ([.ref a0, .int v_a, .int v_b]) (n := 3) (Nat.le_of_ble_eq_true rfl)
  rw [lg_entry_eq]
  generalize (lg_sl ([.ref a0, .int v_a, .int v_b]) ++ List.replicate (3 - (lg_sl ([.ref a0, .int v_a, .int v_b])).length) Slot.unset).toArray = ls at hl ⊢
  have hl : lv_has ls 3 [(0, .ref a0), (1, .int v_a), (2, .int v_b)] := hl
  refine lv_iload_n hx hb dX6_part_0 rfl (lv_at hl 1 rfl) ?_
  refine lv_iconst (v := 1) hx hb dX6_part_1 (by decide) ?_
  refine lv_bipush (v := 99) hx hb dX6_part_2 (by decide) ?_
  refine oh_pS (As := [.int v_a, .int 1, .int 99]) (rest := []) (v := fX6_within v_a 1 99) ⟨hx, hb, hml, hown, htg⟩ (c_X6_within l D E G v_a 1 99) (va_cwS 3 htg (oh_gS q_293 q_294 q_66 q_295) rfl rfl rfl pdX6_within ⟨Nat.le_of_ble_eq_true rfl, Nat.le_of_ble_eq_true rfl⟩) hK (hP.sub (ws' := []) [] rfl) hG hS rfl hl.1 rfl (Nat.le_of_ble_eq_true rfl) dX6_part_4 ⟨Nat.le_of_ble_eq_true rfl, Nat.le_of_ble_eq_true rfl⟩ ?_
  refine lv_if_eq (tgt := 20) hx hb dX6_part_7 (by decide) (fun (c_1 : (fX6_within v_a 1 99) = 0) => ?_) (fun (c_1 : ¬ ((fX6_within v_a 1 99) = 0)) => ?_)
  · refine lv_aload_n hx hb dX6_part_20 rfl (lv_at hl 0 rfl) ?_
    refine lv_bipush (v := (-2)) hx hb dX6_part_21 (by decide) ?_
    refine oh_mV (As := [.int (-2)]) (rest := []) (wr := [(a0_now, .inr (0, [.ref a0_now_counts, .ref a0_now_roads, .ref a0_now_bridges, .ref a0_now_waggons, .ref a0_now_parts, .ref a0_now_settings, .ref a0_now_trip, .int 0])), (a0_now_counts, .inl (E 0, 4, .inl (fun _ => 0))), (a0_now_parts, .inl (E 0, 10, .inl (fun _ => 0)))]) ⟨hx, hb, hml, hown, htg⟩ (c_X6_refuse l D E G s.heap.size a0 (-2) a0_now a0_kept a0_ways a0_shelves a0_tape a0_reader a0_refusals a0_bestPack) (cwV 1 htg (oh_gV q_296 q_298 q_0 q_66 q_299) rfl rfl rfl pdVX6_refuse ⟨Nat.le_of_ble_eq_true rfl, Nat.le_of_ble_eq_true rfl⟩) hK hP hD hG hS hA [0, 4] [1, 2, 3] rfl rfl (by decide) (by decide) (by decide) (va_recv hK hP (ci := 6) (q0 := 0) rfl rfl) rfl hl.1 rfl (Nat.le_of_ble_eq_true rfl) dX6_part_23 ⟨Nat.le_of_ble_eq_true rfl, Nat.le_of_ble_eq_true rfl⟩ (fun r_1 u H locs hw hP hD hS => ?_)
    subst hw
    have hP : va_P D vwCl [(a0_now, .inr (0, [.ref a0_now_counts, .ref a0_now_roads, .ref a0_now_bridges, .ref a0_now_waggons, .ref a0_now_parts, .ref a0_now_settings, .ref a0_now_trip, .int 0])), (a0_now_counts, .inl (E 0, 4, .inl (fun _ => 0))), (a0_now_parts, .inl (E 0, 10, .inl (fun _ => 0))), (a0, .inr (6, [.ref a0_now, .ref a0_kept, .int 0, .ref a0_ways, .ref a0_shelves, .ref a0_tape, .ref a0_reader, .ref a0_refusals, .ref a0_bestPack]))] H := hP
    have hD : va_D A [(a0_now, .inr (0, [.ref a0_now_counts, .ref a0_now_roads, .ref a0_now_bridges, .ref a0_now_waggons, .ref a0_now_parts, .ref a0_now_settings, .ref a0_now_trip, .int 0])), (a0_now_counts, .inl (E 0, 4, .inl (fun _ => 0))), (a0_now_parts, .inl (E 0, 10, .inl (fun _ => 0))), (a0, .inr (6, [.ref a0_now, .ref a0_kept, .int 0, .ref a0_ways, .ref a0_shelves, .ref a0_tape, .ref a0_reader, .ref a0_refusals, .ref a0_bestPack]))] := hD
    refine W.widen (k := 0) (n := 0) (Nat.le_refl _) (Nat.le_refl _) ?_
    refine W.widen (k := 0) (n := 0) (Nat.le_of_ble_eq_true rfl) (Nat.le_of_ble_eq_true rfl) ?_
    exact W.iret (v := (-2)) hx hb hr (fun t ht hW => ⟨⟨(-2), (), rfl, by unfold fX6_part; rw [if_pos c_1], ⟨by rw [ht]; exact hP.sub [] rfl, hD.sub [] (by decide) rfl⟩⟩, hS.F ht⟩) hS.2.2 dX6_part_26
  · refine lv_iload_n hx hb dX6_part_10 rfl (lv_at hl 2 rfl) ?_
    refine lv_iconst (v := 0) hx hb dX6_part_11 (by decide) ?_
    refine lv_bipush (v := 99) hx hb dX6_part_12 (by decide) ?_
    refine oh_pS (As := [.int v_b, .int 0, .int 99]) (rest := []) (v := fX6_within v_b 0 99) ⟨hx, hb, hml, hown, htg⟩ (c_X6_within l D E G v_b 0 99) (va_cwS 3 htg (oh_gS q_293 q_294 q_66 q_295) rfl rfl rfl pdX6_within ⟨Nat.le_of_ble_eq_true rfl, Nat.le_of_ble_eq_true rfl⟩) hK (hP.sub (ws' := []) [] rfl) hG hS rfl hl.1 rfl (Nat.le_of_ble_eq_true rfl) dX6_part_14 ⟨Nat.le_of_ble_eq_true rfl, Nat.le_of_ble_eq_true rfl⟩ ?_
    refine lv_if_ne (tgt := 27) hx hb dX6_part_17 (by decide) (fun (c_2 : ¬ ((fX6_within v_b 0 99) = 0)) => ?_) (fun (c_2 : (fX6_within v_b 0 99) = 0) => ?_)
    · refine lv_aload_n hx hb dX6_part_27 rfl (lv_at hl 0 rfl) ?_
      refine va_get (D := D) (ci := 6) (v := .ref a0_now) (C := RX6) (T := TX6) (N := 9) hx hb htg ig_6 hown hK hP 0 rfl rfl 0 (by decide) (htg _ q_258) (fun _ h9 => h9) rfl dX6_part_28 ?_
      refine lv_iconst (v := 3) hx hb dX6_part_31 (by decide) ?_
      refine oh_pV (As := [.int 3]) (rest := []) (v := 1) ⟨hx, hb, hml, hown, htg⟩ (c_X0_hasRoom3 l D E G a0_now a0_now_counts a0_now_roads a0_now_bridges a0_now_waggons a0_now_parts a0_now_settings a0_now_trip) (cwV 1 htg (oh_gV q_416 q_417 q_418 q_67 q_419) rfl rfl rfl pdVX0_hasRoom ⟨Nat.le_of_ble_eq_true rfl, Nat.le_of_ble_eq_true rfl⟩) hK (hP.sub (ws' := [(a0_now, .inr (0, [.ref a0_now_counts, .ref a0_now_roads, .ref a0_now_bridges, .ref a0_now_waggons, .ref a0_now_parts, .ref a0_now_settings, .ref a0_now_trip, .int 0])), (a0_now_counts, .inl (E 0, 4, .inl (fun _ => 0)))]) [1, 2] rfl) hG hS (va_recv hK hP (ci := 0) (q0 := 1) rfl rfl) rfl hl.1 rfl (Nat.le_of_ble_eq_true rfl) dX6_part_32 ⟨Nat.le_of_ble_eq_true rfl, Nat.le_of_ble_eq_true rfl⟩ ?_
      refine lv_if_ne (tgt := 45) hx hb dX6_part_35 (by decide) (fun _ => ?_) (fun c => absurd c (show ¬ ((1 : Int32) = 0) from by decide))
      refine lv_aload_n hx hb dX6_part_45 rfl (lv_at hl 0 rfl) ?_
      refine va_get (D := D) (ci := 6) (v := .ref a0_now) (C := RX6) (T := TX6) (N := 9) hx hb htg ig_6 hown hK hP 0 rfl rfl 0 (by decide) (htg _ q_258) (fun _ h9 => h9) rfl dX6_part_46 ?_
      refine lv_iload_n hx hb dX6_part_49 rfl (lv_at hl 1 rfl) ?_
      refine lv_iload_n hx hb dX6_part_50 rfl (lv_at hl 2 rfl) ?_
      refine oh_mV (As := [.int v_a, .int v_b]) (rest := []) (wr := [(a0, .inr (6, [.ref a0_now, .ref a0_kept, .int 0, .ref a0_ways, .ref a0_shelves, .ref a0_tape, .ref a0_reader, .ref a0_refusals, .ref a0_bestPack])), (a0_refusals, .inl (E 0, 5, .inl (fun _ => 0)))]) ⟨hx, hb, hml, hown, htg⟩ (c_X0_addPart l D E G s.heap.size a0_now v_a v_b a0_now_counts a0_now_roads a0_now_bridges a0_now_waggons a0_now_parts a0_now_settings a0_now_trip) (cwV 2 htg (oh_gV q_460 q_461 q_462 q_67 q_463) rfl rfl rfl pdVX0_addPart ⟨Nat.le_of_ble_eq_true rfl, Nat.le_of_ble_eq_true rfl⟩) hK hP hD hG hS hA [1, 2, 3] [0, 4] rfl rfl (by decide) (by decide) (by decide) (va_recv hK hP (ci := 0) (q0 := 1) rfl rfl) rfl hl.1 rfl (Nat.le_of_ble_eq_true rfl) dX6_part_51 ⟨Nat.le_of_ble_eq_true rfl, Nat.le_of_ble_eq_true rfl⟩ (fun r_2 u H locs hw hP hD hS => ?_)
      subst hw
      have hP : va_P D vwCl [(a0, .inr (6, [.ref a0_now, .ref a0_kept, .int 0, .ref a0_ways, .ref a0_shelves, .ref a0_tape, .ref a0_reader, .ref a0_refusals, .ref a0_bestPack])), (a0_refusals, .inl (E 0, 5, .inl (fun _ => 0)))] H := hP
      have hD : va_D A [(a0, .inr (6, [.ref a0_now, .ref a0_kept, .int 0, .ref a0_ways, .ref a0_shelves, .ref a0_tape, .ref a0_reader, .ref a0_refusals, .ref a0_bestPack])), (a0_refusals, .inl (E 0, 5, .inl (fun _ => 0)))] := hD
      refine W.widen (k := 0) (n := 0) (Nat.le_refl _) (Nat.le_refl _) ?_
      refine W.widen (k := 0) (n := 0) (Nat.le_of_ble_eq_true rfl) (Nat.le_of_ble_eq_true rfl) ?_
      exact W.iret (v := 0) hx hb hr (fun t ht hW => ⟨⟨0, (), rfl, by unfold fX6_part; rw [if_neg c_1, if_neg c_2], ⟨by rw [ht]; exact hP.sub [] rfl, hD.sub [] (by decide) rfl⟩⟩, hS.F ht⟩) hS.2.2 dX6_part_54
    · refine lv_aload_n hx hb dX6_part_20 rfl (lv_at hl 0 rfl) ?_
      refine lv_bipush (v := (-2)) hx hb dX6_part_21 (by decide) ?_
      refine oh_mV (As := [.int (-2)]) (rest := []) (wr := [(a0_now, .inr (0, [.ref a0_now_counts, .ref a0_now_roads, .ref a0_now_bridges, .ref a0_now_waggons, .ref a0_now_parts, .ref a0_now_settings, .ref a0_now_trip, .int 0])), (a0_now_counts, .inl (E 0, 4, .inl (fun _ => 0))), (a0_now_parts, .inl (E 0, 10, .inl (fun _ => 0)))]) ⟨hx, hb, hml, hown, htg⟩ (c_X6_refuse l D E G s.heap.size a0 (-2) a0_now a0_kept a0_ways a0_shelves a0_tape a0_reader a0_refusals a0_bestPack) (cwV 1 htg (oh_gV q_296 q_298 q_0 q_66 q_299) rfl rfl rfl pdVX6_refuse ⟨Nat.le_of_ble_eq_true rfl, Nat.le_of_ble_eq_true rfl⟩) hK hP hD hG hS hA [0, 4] [1, 2, 3] rfl rfl (by decide) (by decide) (by decide) (va_recv hK hP (ci := 6) (q0 := 0) rfl rfl) rfl hl.1 rfl (Nat.le_of_ble_eq_true rfl) dX6_part_23 ⟨Nat.le_of_ble_eq_true rfl, Nat.le_of_ble_eq_true rfl⟩ (fun r_3 u H locs hw hP hD hS => ?_)
      subst hw
      have hP : va_P D vwCl [(a0_now, .inr (0, [.ref a0_now_counts, .ref a0_now_roads, .ref a0_now_bridges, .ref a0_now_waggons, .ref a0_now_parts, .ref a0_now_settings, .ref a0_now_trip, .int 0])), (a0_now_counts, .inl (E 0, 4, .inl (fun _ => 0))), (a0_now_parts, .inl (E 0, 10, .inl (fun _ => 0))), (a0, .inr (6, [.ref a0_now, .ref a0_kept, .int 0, .ref a0_ways, .ref a0_shelves, .ref a0_tape, .ref a0_reader, .ref a0_refusals, .ref a0_bestPack]))] H := hP
      have hD : va_D A [(a0_now, .inr (0, [.ref a0_now_counts, .ref a0_now_roads, .ref a0_now_bridges, .ref a0_now_waggons, .ref a0_now_parts, .ref a0_now_settings, .ref a0_now_trip, .int 0])), (a0_now_counts, .inl (E 0, 4, .inl (fun _ => 0))), (a0_now_parts, .inl (E 0, 10, .inl (fun _ => 0))), (a0, .inr (6, [.ref a0_now, .ref a0_kept, .int 0, .ref a0_ways, .ref a0_shelves, .ref a0_tape, .ref a0_reader, .ref a0_refusals, .ref a0_bestPack]))] := hD
      refine W.widen (k := 0) (n := 0) (Nat.le_refl _) (Nat.le_refl _) ?_
      refine W.widen (k := 0) (n := 0) (Nat.le_of_ble_eq_true rfl) (Nat.le_of_ble_eq_true rfl) ?_
      exact W.iret (v := (-2)) hx hb hr (fun t ht hW => ⟨⟨(-2), (), rfl, by unfold fX6_part; rw [if_neg c_1, if_pos c_2], ⟨by rw [ht]; exact hP.sub [] rfl, hD.sub [] (by decide) rfl⟩⟩, hS.F ht⟩) hS.2.2 dX6_part_26
set_option maxHeartbeats 4000000 in
set_option maxRecDepth 100000 in
theorem c_X6_bridge (l : Launch) (D : va_G) (E : Nat → ClassId) (G : Nat → Nat) (sz : Nat) (a0 : Nat) (v_a : Int32) (v_b : Int32) (v_c : Int32) (v_d : Int32) (v_e : Int32) (a0_now : Nat) (a0_kept : Nat) (a0_ways : Nat) (a0_shelves : Nat) (a0_tape : Nat) (a0_reader : Nat) (a0_refusals : Nat) (a0_bestPack : Nat) (a0_now_counts : Nat) (a0_now_roads : Nat) (a0_now_bridges : Nat) (a0_now_waggons : Nat) (a0_now_parts : Nat) (a0_now_settings : Nat) (a0_now_trip : Nat) : Met l yX6_bridge (oh_w yX6_bridge cX6_bridge 6 (some .int)) ({ frames := 2, cells := 0, slots := 0, locals := 44 }) (oh_Pm D E G [.ref a0, .int v_a, .int v_b, .int v_c, .int v_d, .int v_e] [(a0, .inr (6, [.ref a0_now, .ref a0_kept, .int 0, .ref a0_ways, .ref a0_shelves, .ref a0_tape, .ref a0_reader, .ref a0_refusals, .ref a0_bestPack])), (a0_now, .inr (0, [.ref a0_now_counts, .ref a0_now_roads, .ref a0_now_bridges, .ref a0_now_waggons, .ref a0_now_parts, .ref a0_now_settings, .ref a0_now_trip, .int 0])), (a0_now_counts, .inl (E 0, 4, .inl (fun _ => 0))), (a0_refusals, .inl (E 0, 5, .inl (fun _ => 0)))] sz) (va_Qi (fun r (_ : Unit) => r = (-2)) (oh_B D (va_A [(a0, .inr (6, [.ref a0_now, .ref a0_kept, .int 0, .ref a0_ways, .ref a0_shelves, .ref a0_tape, .ref a0_reader, .ref a0_refusals, .ref a0_bestPack])), (a0_now, .inr (0, [.ref a0_now_counts, .ref a0_now_roads, .ref a0_now_bridges, .ref a0_now_waggons, .ref a0_now_parts, .ref a0_now_settings, .ref a0_now_trip, .int 0])), (a0_now_counts, .inl (E 0, 4, .inl (fun _ => 0))), (a0_refusals, .inl (E 0, 5, .inl (fun _ => 0)))] sz) (fun _ => [])) (va_A [(a0, .inr (6, [.ref a0_now, .ref a0_kept, .int 0, .ref a0_ways, .ref a0_shelves, .ref a0_tape, .ref a0_reader, .ref a0_refusals, .ref a0_bestPack])), (a0_now, .inr (0, [.ref a0_now_counts, .ref a0_now_roads, .ref a0_now_bridges, .ref a0_now_waggons, .ref a0_now_parts, .ref a0_now_settings, .ref a0_now_trip, .int 0])), (a0_now_counts, .inl (E 0, 4, .inl (fun _ => 0))), (a0_refusals, .inl (E 0, 5, .inl (fun _ => 0)))] sz)) 0 0 (va_A [(a0, .inr (6, [.ref a0_now, .ref a0_kept, .int 0, .ref a0_ways, .ref a0_shelves, .ref a0_tape, .ref a0_reader, .ref a0_refusals, .ref a0_bestPack])), (a0_now, .inr (0, [.ref a0_now_counts, .ref a0_now_roads, .ref a0_now_bridges, .ref a0_now_waggons, .ref a0_now_parts, .ref a0_now_settings, .ref a0_now_trip, .int 0])), (a0_now_counts, .inl (E 0, 4, .inl (fun _ => 0))), (a0_refusals, .inl (E 0, 5, .inl (fun _ => 0)))] sz) := by
  refine Met.ofW (cc := cX6_bridge) (maxL := 6) (ret := (some .int)) (by decide) rfl ?_
  intro p e s m args below meth c s₁ B hml hv
  obtain ⟨rfl, hsz, hP, hK, hD0, hG⟩ := hv
  have hx := B.exec
  have hb := B.bytes
  have hr := B.returns
  have hts := atoms_spec (ws := (oh_w yX6_bridge cX6_bridge 6 (some .int))) B.pre
  have htg : ∀ w ∈ oh_t, w.before _ s = true := fun w h => hts w (List.mem_cons_of_mem _ h)
  have hown : s.vm.findClass RX6 = some m.cls := findClass_of_methodNamed B.named
  have hlocks := B.notSynchronized
  subst hsz
  have hD := hD0.self (sz := s.heap.size)
  generalize hAe : va_A [(a0, .inr (6, [.ref a0_now, .ref a0_kept, .int 0, .ref a0_ways, .ref a0_shelves, .ref a0_tape, .ref a0_reader, .ref a0_refusals, .ref a0_bestPack])), (a0_now, .inr (0, [.ref a0_now_counts, .ref a0_now_roads, .ref a0_now_bridges, .ref a0_now_waggons, .ref a0_now_parts, .ref a0_now_settings, .ref a0_now_trip, .int 0])), (a0_now_counts, .inl (E 0, 4, .inl (fun _ => 0))), (a0_refusals, .inl (E 0, 5, .inl (fun _ => 0)))] s.heap.size = A at hD hG ⊢
  have hA : ∀ q : Nat, s.heap.size ≤ q → A q := fun q h => by rw [← hAe]; exact Or.inr h
  have hS : va_S A s.heap s.heap [] := va_S.rf
  have hP : va_P D vwCl [(a0, .inr (6, [.ref a0_now, .ref a0_kept, .int 0, .ref a0_ways, .ref a0_shelves, .ref a0_tape, .ref a0_reader, .ref a0_refusals, .ref a0_bestPack])), (a0_now, .inr (0, [.ref a0_now_counts, .ref a0_now_roads, .ref a0_now_bridges, .ref a0_now_waggons, .ref a0_now_parts, .ref a0_now_settings, .ref a0_now_trip, .int 0])), (a0_now_counts, .inl (E 0, 4, .inl (fun _ => 0))), (a0_refusals, .inl (E 0, 5, .inl (fun _ => 0)))] s.heap := hP
  have hl := lv_entry ([.ref a0, .int v_a, .int v_b, .int v_c, .int v_d, .int v_e]) (n := 6) (Nat.le_of_ble_eq_true rfl)
  rw [lg_entry_eq]
  generalize (lg_sl ([.ref a0, .int v_a, .int v_b, .int v_c, .int v_d, .int v_e]) ++ List.replicate (6 - (lg_sl ([.ref a0, .int v_a, .int v_b, .int v_c, .int v_d, .int v_e])).length) Slot.unset).toArray = ls at hl ⊢
  have hl : lv_has ls 6 [(0, .ref a0), (1, .int v_a), (2, .int v_b), (3, .int v_c), (4, .int v_d), (5, .int v_e)] := hl
  refine lv_aload_n hx hb dX6_bridge_0 rfl (lv_at hl 0 rfl) ?_
  refine lv_iload_n hx hb dX6_bridge_1 rfl (lv_at hl 1 rfl) ?_
  refine oh_pV (As := [.int v_a]) (rest := []) (v := 0) ⟨hx, hb, hml, hown, htg⟩ (k_X6_isRoad l D E G a0 v_a a0_now a0_kept a0_ways a0_shelves a0_tape a0_reader a0_refusals a0_bestPack a0_now_counts a0_now_roads a0_now_bridges a0_now_waggons a0_now_parts a0_now_settings a0_now_trip) (cwV 1 htg (oh_gV q_428 q_430 q_5 q_66 q_431) rfl rfl rfl pdVX6_isRoad ⟨Nat.le_of_ble_eq_true rfl, Nat.le_of_ble_eq_true rfl⟩) hK (hP.sub (ws' := [(a0, .inr (6, [.ref a0_now, .ref a0_kept, .int 0, .ref a0_ways, .ref a0_shelves, .ref a0_tape, .ref a0_reader, .ref a0_refusals, .ref a0_bestPack])), (a0_now, .inr (0, [.ref a0_now_counts, .ref a0_now_roads, .ref a0_now_bridges, .ref a0_now_waggons, .ref a0_now_parts, .ref a0_now_settings, .ref a0_now_trip, .int 0])), (a0_now_counts, .inl (E 0, 4, .inl (fun _ => 0)))]) [0, 1, 2] rfl) hG hS (va_recv hK hP (ci := 6) (q0 := 0) rfl rfl) rfl hl.1 rfl (Nat.le_of_ble_eq_true rfl) dX6_bridge_2 ⟨Nat.le_of_ble_eq_true rfl, Nat.le_of_ble_eq_true rfl⟩ ?_
  refine lv_if_eq (tgt := 50) hx hb dX6_bridge_5 (by decide) (fun _ => ?_) (fun c => absurd (show (0 : Int32) = 0 from by decide) c)
  refine lv_aload_n hx hb dX6_bridge_50 rfl (lv_at hl 0 rfl) ?_
  refine lv_bipush (v := (-2)) hx hb dX6_bridge_51 (by decide) ?_
  refine oh_mV (As := [.int (-2)]) (rest := []) (wr := [(a0_now, .inr (0, [.ref a0_now_counts, .ref a0_now_roads, .ref a0_now_bridges, .ref a0_now_waggons, .ref a0_now_parts, .ref a0_now_settings, .ref a0_now_trip, .int 0])), (a0_now_counts, .inl (E 0, 4, .inl (fun _ => 0)))]) ⟨hx, hb, hml, hown, htg⟩ (c_X6_refuse l D E G s.heap.size a0 (-2) a0_now a0_kept a0_ways a0_shelves a0_tape a0_reader a0_refusals a0_bestPack) (cwV 1 htg (oh_gV q_296 q_298 q_0 q_66 q_299) rfl rfl rfl pdVX6_refuse ⟨Nat.le_of_ble_eq_true rfl, Nat.le_of_ble_eq_true rfl⟩) hK hP hD hG hS hA [0, 3] [1, 2] rfl rfl (by decide) (by decide) (by decide) (va_recv hK hP (ci := 6) (q0 := 0) rfl rfl) rfl hl.1 rfl (Nat.le_of_ble_eq_true rfl) dX6_bridge_53 ⟨Nat.le_of_ble_eq_true rfl, Nat.le_of_ble_eq_true rfl⟩ (fun r_1 u H locs hw hP hD hS => ?_)
  subst hw
  have hP : va_P D vwCl [(a0_now, .inr (0, [.ref a0_now_counts, .ref a0_now_roads, .ref a0_now_bridges, .ref a0_now_waggons, .ref a0_now_parts, .ref a0_now_settings, .ref a0_now_trip, .int 0])), (a0_now_counts, .inl (E 0, 4, .inl (fun _ => 0))), (a0, .inr (6, [.ref a0_now, .ref a0_kept, .int 0, .ref a0_ways, .ref a0_shelves, .ref a0_tape, .ref a0_reader, .ref a0_refusals, .ref a0_bestPack]))] H := hP
  have hD : va_D A [(a0_now, .inr (0, [.ref a0_now_counts, .ref a0_now_roads, .ref a0_now_bridges, .ref a0_now_waggons, .ref a0_now_parts, .ref a0_now_settings, .ref a0_now_trip, .int 0])), (a0_now_counts, .inl (E 0, 4, .inl (fun _ => 0))), (a0, .inr (6, [.ref a0_now, .ref a0_kept, .int 0, .ref a0_ways, .ref a0_shelves, .ref a0_tape, .ref a0_reader, .ref a0_refusals, .ref a0_bestPack]))] := hD
  refine W.widen (k := 0) (n := 0) (Nat.le_refl _) (Nat.le_refl _) ?_
  refine W.widen (k := 0) (n := 0) (Nat.le_of_ble_eq_true rfl) (Nat.le_of_ble_eq_true rfl) ?_
  exact W.iret (v := (-2)) hx hb hr (fun t ht hW => ⟨⟨(-2), (), rfl, rfl, ⟨by rw [ht]; exact hP.sub [] rfl, hD.sub [] (by decide) rfl⟩⟩, hS.F ht⟩) hS.2.2 dX6_bridge_56
set_option maxHeartbeats 4000000 in
set_option maxRecDepth 100000 in
theorem c_X6_prop (l : Launch) (D : va_G) (E : Nat → ClassId) (G : Nat → Nat) (sz : Nat) (a0 : Nat) (v_a : Int32) (v_b : Int32) (v_c : Int32) (a0_now : Nat) (a0_kept : Nat) (a0_ways : Nat) (a0_shelves : Nat) (a0_tape : Nat) (a0_reader : Nat) (a0_refusals : Nat) (a0_bestPack : Nat) (a0_now_counts : Nat) (a0_now_roads : Nat) (a0_now_bridges : Nat) (a0_now_waggons : Nat) (a0_now_parts : Nat) (a0_now_settings : Nat) (a0_now_trip : Nat) : Met l yX6_prop (oh_w yX6_prop cX6_prop 4 (some .int)) ({ frames := 2, cells := 0, slots := 0, locals := 44 }) (oh_Pm D E G [.ref a0, .int v_a, .int v_b, .int v_c] [(a0, .inr (6, [.ref a0_now, .ref a0_kept, .int 0, .ref a0_ways, .ref a0_shelves, .ref a0_tape, .ref a0_reader, .ref a0_refusals, .ref a0_bestPack])), (a0_now, .inr (0, [.ref a0_now_counts, .ref a0_now_roads, .ref a0_now_bridges, .ref a0_now_waggons, .ref a0_now_parts, .ref a0_now_settings, .ref a0_now_trip, .int 0])), (a0_now_counts, .inl (E 0, 4, .inl (fun _ => 0))), (a0_refusals, .inl (E 0, 5, .inl (fun _ => 0)))] sz) (va_Qi (fun r (_ : Unit) => r = (-2)) (oh_B D (va_A [(a0, .inr (6, [.ref a0_now, .ref a0_kept, .int 0, .ref a0_ways, .ref a0_shelves, .ref a0_tape, .ref a0_reader, .ref a0_refusals, .ref a0_bestPack])), (a0_now, .inr (0, [.ref a0_now_counts, .ref a0_now_roads, .ref a0_now_bridges, .ref a0_now_waggons, .ref a0_now_parts, .ref a0_now_settings, .ref a0_now_trip, .int 0])), (a0_now_counts, .inl (E 0, 4, .inl (fun _ => 0))), (a0_refusals, .inl (E 0, 5, .inl (fun _ => 0)))] sz) (fun _ => [])) (va_A [(a0, .inr (6, [.ref a0_now, .ref a0_kept, .int 0, .ref a0_ways, .ref a0_shelves, .ref a0_tape, .ref a0_reader, .ref a0_refusals, .ref a0_bestPack])), (a0_now, .inr (0, [.ref a0_now_counts, .ref a0_now_roads, .ref a0_now_bridges, .ref a0_now_waggons, .ref a0_now_parts, .ref a0_now_settings, .ref a0_now_trip, .int 0])), (a0_now_counts, .inl (E 0, 4, .inl (fun _ => 0))), (a0_refusals, .inl (E 0, 5, .inl (fun _ => 0)))] sz)) 0 0 (va_A [(a0, .inr (6, [.ref a0_now, .ref a0_kept, .int 0, .ref a0_ways, .ref a0_shelves, .ref a0_tape, .ref a0_reader, .ref a0_refusals, .ref a0_bestPack])), (a0_now, .inr (0, [.ref a0_now_counts, .ref a0_now_roads, .ref a0_now_bridges, .ref a0_now_waggons, .ref a0_now_parts, .ref a0_now_settings, .ref a0_now_trip, .int 0])), (a0_now_counts, .inl (E 0, 4, .inl (fun _ => 0))), (a0_refusals, .inl (E 0, 5, .inl (fun _ => 0)))] sz) := by
  refine Met.ofW (cc := cX6_prop) (maxL := 4) (ret := (some .int)) (by decide) rfl ?_
  intro p e s m args below meth c s₁ B hml hv
  obtain ⟨rfl, hsz, hP, hK, hD0, hG⟩ := hv
  have hx := B.exec
  have hb := B.bytes
  have hr := B.returns
  have hts := atoms_spec (ws := (oh_w yX6_prop cX6_prop 4 (some .int))) B.pre
  have htg : ∀ w ∈ oh_t, w.before _ s = true := fun w h => hts w (List.mem_cons_of_mem _ h)
  have hown : s.vm.findClass RX6 = some m.cls := findClass_of_methodNamed B.named
  have hlocks := B.notSynchronized
  subst hsz
  have hD := hD0.self (sz := s.heap.size)
  generalize hAe : va_A [(a0, .inr (6, [.ref a0_now, .ref a0_kept, .int 0, .ref a0_ways, .ref a0_shelves, .ref a0_tape, .ref a0_reader, .ref a0_refusals, .ref a0_bestPack])), (a0_now, .inr (0, [.ref a0_now_counts, .ref a0_now_roads, .ref a0_now_bridges, .ref a0_now_waggons, .ref a0_now_parts, .ref a0_now_settings, .ref a0_now_trip, .int 0])), (a0_now_counts, .inl (E 0, 4, .inl (fun _ => 0))), (a0_refusals, .inl (E 0, 5, .inl (fun _ => 0)))] s.heap.size = A at hD hG ⊢
  have hA : ∀ q : Nat, s.heap.size ≤ q → A q := fun q h => by rw [← hAe]; exact Or.inr h
  have hS : va_S A s.heap s.heap [] := va_S.rf
  have hP : va_P D vwCl [(a0, .inr (6, [.ref a0_now, .ref a0_kept, .int 0, .ref a0_ways, .ref a0_shelves, .ref a0_tape, .ref a0_reader, .ref a0_refusals, .ref a0_bestPack])), (a0_now, .inr (0, [.ref a0_now_counts, .ref a0_now_roads, .ref a0_now_bridges, .ref a0_now_waggons, .ref a0_now_parts, .ref a0_now_settings, .ref a0_now_trip, .int 0])), (a0_now_counts, .inl (E 0, 4, .inl (fun _ => 0))), (a0_refusals, .inl (E 0, 5, .inl (fun _ => 0)))] s.heap := hP
  have hl := lv_entry ([.ref a0, .int v_a, .int v_b, .int v_c]) (n := 4) (Nat.le_of_ble_eq_true rfl)
  rw [lg_entry_eq]
  generalize (lg_sl ([.ref a0, .int v_a, .int v_b, .int v_c]) ++ List.replicate (4 - (lg_sl ([.ref a0, .int v_a, .int v_b, .int v_c])).length) Slot.unset).toArray = ls at hl ⊢
  have hl : lv_has ls 4 [(0, .ref a0), (1, .int v_a), (2, .int v_b), (3, .int v_c)] := hl
  refine lv_aload_n hx hb dX6_prop_0 rfl (lv_at hl 0 rfl) ?_
  refine lv_iload_n hx hb dX6_prop_1 rfl (lv_at hl 1 rfl) ?_
  refine oh_pV (As := [.int v_a]) (rest := []) (v := 0) ⟨hx, hb, hml, hown, htg⟩ (k_X6_isBridge l D E G a0 v_a a0_now a0_kept a0_ways a0_shelves a0_tape a0_reader a0_refusals a0_bestPack a0_now_counts a0_now_roads a0_now_bridges a0_now_waggons a0_now_parts a0_now_settings a0_now_trip) (cwV 1 htg (oh_gV q_366 q_368 q_2 q_66 q_369) rfl rfl rfl pdVX6_isBridge ⟨Nat.le_of_ble_eq_true rfl, Nat.le_of_ble_eq_true rfl⟩) hK (hP.sub (ws' := [(a0, .inr (6, [.ref a0_now, .ref a0_kept, .int 0, .ref a0_ways, .ref a0_shelves, .ref a0_tape, .ref a0_reader, .ref a0_refusals, .ref a0_bestPack])), (a0_now, .inr (0, [.ref a0_now_counts, .ref a0_now_roads, .ref a0_now_bridges, .ref a0_now_waggons, .ref a0_now_parts, .ref a0_now_settings, .ref a0_now_trip, .int 0])), (a0_now_counts, .inl (E 0, 4, .inl (fun _ => 0)))]) [0, 1, 2] rfl) hG hS (va_recv hK hP (ci := 6) (q0 := 0) rfl rfl) rfl hl.1 rfl (Nat.le_of_ble_eq_true rfl) dX6_prop_2 ⟨Nat.le_of_ble_eq_true rfl, Nat.le_of_ble_eq_true rfl⟩ ?_
  refine lv_if_eq (tgt := 30) hx hb dX6_prop_5 (by decide) (fun _ => ?_) (fun c => absurd (show (0 : Int32) = 0 from by decide) c)
  refine lv_aload_n hx hb dX6_prop_30 rfl (lv_at hl 0 rfl) ?_
  refine lv_bipush (v := (-2)) hx hb dX6_prop_31 (by decide) ?_
  refine oh_mV (As := [.int (-2)]) (rest := []) (wr := [(a0_now, .inr (0, [.ref a0_now_counts, .ref a0_now_roads, .ref a0_now_bridges, .ref a0_now_waggons, .ref a0_now_parts, .ref a0_now_settings, .ref a0_now_trip, .int 0])), (a0_now_counts, .inl (E 0, 4, .inl (fun _ => 0)))]) ⟨hx, hb, hml, hown, htg⟩ (c_X6_refuse l D E G s.heap.size a0 (-2) a0_now a0_kept a0_ways a0_shelves a0_tape a0_reader a0_refusals a0_bestPack) (cwV 1 htg (oh_gV q_296 q_298 q_0 q_66 q_299) rfl rfl rfl pdVX6_refuse ⟨Nat.le_of_ble_eq_true rfl, Nat.le_of_ble_eq_true rfl⟩) hK hP hD hG hS hA [0, 3] [1, 2] rfl rfl (by decide) (by decide) (by decide) (va_recv hK hP (ci := 6) (q0 := 0) rfl rfl) rfl hl.1 rfl (Nat.le_of_ble_eq_true rfl) dX6_prop_33 ⟨Nat.le_of_ble_eq_true rfl, Nat.le_of_ble_eq_true rfl⟩ (fun r_1 u H locs hw hP hD hS => ?_)
  subst hw
  have hP : va_P D vwCl [(a0_now, .inr (0, [.ref a0_now_counts, .ref a0_now_roads, .ref a0_now_bridges, .ref a0_now_waggons, .ref a0_now_parts, .ref a0_now_settings, .ref a0_now_trip, .int 0])), (a0_now_counts, .inl (E 0, 4, .inl (fun _ => 0))), (a0, .inr (6, [.ref a0_now, .ref a0_kept, .int 0, .ref a0_ways, .ref a0_shelves, .ref a0_tape, .ref a0_reader, .ref a0_refusals, .ref a0_bestPack]))] H := hP
  have hD : va_D A [(a0_now, .inr (0, [.ref a0_now_counts, .ref a0_now_roads, .ref a0_now_bridges, .ref a0_now_waggons, .ref a0_now_parts, .ref a0_now_settings, .ref a0_now_trip, .int 0])), (a0_now_counts, .inl (E 0, 4, .inl (fun _ => 0))), (a0, .inr (6, [.ref a0_now, .ref a0_kept, .int 0, .ref a0_ways, .ref a0_shelves, .ref a0_tape, .ref a0_reader, .ref a0_refusals, .ref a0_bestPack]))] := hD
  refine W.widen (k := 0) (n := 0) (Nat.le_refl _) (Nat.le_refl _) ?_
  refine W.widen (k := 0) (n := 0) (Nat.le_of_ble_eq_true rfl) (Nat.le_of_ble_eq_true rfl) ?_
  exact W.iret (v := (-2)) hx hb hr (fun t ht hW => ⟨⟨(-2), (), rfl, rfl, ⟨by rw [ht]; exact hP.sub [] rfl, hD.sub [] (by decide) rfl⟩⟩, hS.F ht⟩) hS.2.2 dX6_prop_36
set_option maxHeartbeats 4000000 in
set_option maxRecDepth 100000 in
theorem c_X6_roadOf (l : Launch) (D : va_G) (E : Nat → ClassId) (G : Nat → Nat) (sz : Nat) (a0 : Nat) (v_a : Int32) (v_b : Int32) (a0_now : Nat) (a0_kept : Nat) (a0_ways : Nat) (a0_shelves : Nat) (a0_tape : Nat) (a0_reader : Nat) (a0_refusals : Nat) (a0_bestPack : Nat) (a0_now_counts : Nat) (a0_now_roads : Nat) (a0_now_bridges : Nat) (a0_now_waggons : Nat) (a0_now_parts : Nat) (a0_now_settings : Nat) (a0_now_trip : Nat) : Met l yX6_roadOf (oh_w yX6_roadOf cX6_roadOf 3 (some .int)) ({ frames := 2, cells := 0, slots := 0, locals := 44 }) (oh_Pm D E G [.ref a0, .int v_a, .int v_b] [(a0, .inr (6, [.ref a0_now, .ref a0_kept, .int 0, .ref a0_ways, .ref a0_shelves, .ref a0_tape, .ref a0_reader, .ref a0_refusals, .ref a0_bestPack])), (a0_now, .inr (0, [.ref a0_now_counts, .ref a0_now_roads, .ref a0_now_bridges, .ref a0_now_waggons, .ref a0_now_parts, .ref a0_now_settings, .ref a0_now_trip, .int 0])), (a0_now_counts, .inl (E 0, 4, .inl (fun _ => 0))), (a0_refusals, .inl (E 0, 5, .inl (fun _ => 0)))] sz) (va_Qi (fun r (_ : Unit) => r = (-2)) (oh_B D (va_A [(a0, .inr (6, [.ref a0_now, .ref a0_kept, .int 0, .ref a0_ways, .ref a0_shelves, .ref a0_tape, .ref a0_reader, .ref a0_refusals, .ref a0_bestPack])), (a0_now, .inr (0, [.ref a0_now_counts, .ref a0_now_roads, .ref a0_now_bridges, .ref a0_now_waggons, .ref a0_now_parts, .ref a0_now_settings, .ref a0_now_trip, .int 0])), (a0_now_counts, .inl (E 0, 4, .inl (fun _ => 0))), (a0_refusals, .inl (E 0, 5, .inl (fun _ => 0)))] sz) (fun _ => [])) (va_A [(a0, .inr (6, [.ref a0_now, .ref a0_kept, .int 0, .ref a0_ways, .ref a0_shelves, .ref a0_tape, .ref a0_reader, .ref a0_refusals, .ref a0_bestPack])), (a0_now, .inr (0, [.ref a0_now_counts, .ref a0_now_roads, .ref a0_now_bridges, .ref a0_now_waggons, .ref a0_now_parts, .ref a0_now_settings, .ref a0_now_trip, .int 0])), (a0_now_counts, .inl (E 0, 4, .inl (fun _ => 0))), (a0_refusals, .inl (E 0, 5, .inl (fun _ => 0)))] sz)) 0 0 (va_A [(a0, .inr (6, [.ref a0_now, .ref a0_kept, .int 0, .ref a0_ways, .ref a0_shelves, .ref a0_tape, .ref a0_reader, .ref a0_refusals, .ref a0_bestPack])), (a0_now, .inr (0, [.ref a0_now_counts, .ref a0_now_roads, .ref a0_now_bridges, .ref a0_now_waggons, .ref a0_now_parts, .ref a0_now_settings, .ref a0_now_trip, .int 0])), (a0_now_counts, .inl (E 0, 4, .inl (fun _ => 0))), (a0_refusals, .inl (E 0, 5, .inl (fun _ => 0)))] sz) := by
  refine Met.ofW (cc := cX6_roadOf) (maxL := 3) (ret := (some .int)) (by decide) rfl ?_
  intro p e s m args below meth c s₁ B hml hv
  obtain ⟨rfl, hsz, hP, hK, hD0, hG⟩ := hv
  have hx := B.exec
  have hb := B.bytes
  have hr := B.returns
  have hts := atoms_spec (ws := (oh_w yX6_roadOf cX6_roadOf 3 (some .int))) B.pre
  have htg : ∀ w ∈ oh_t, w.before _ s = true := fun w h => hts w (List.mem_cons_of_mem _ h)
  have hown : s.vm.findClass RX6 = some m.cls := findClass_of_methodNamed B.named
  have hlocks := B.notSynchronized
  subst hsz
  have hD := hD0.self (sz := s.heap.size)
  generalize hAe : va_A [(a0, .inr (6, [.ref a0_now, .ref a0_kept, .int 0, .ref a0_ways, .ref a0_shelves, .ref a0_tape, .ref a0_reader, .ref a0_refusals, .ref a0_bestPack])), (a0_now, .inr (0, [.ref a0_now_counts, .ref a0_now_roads, .ref a0_now_bridges, .ref a0_now_waggons, .ref a0_now_parts, .ref a0_now_settings, .ref a0_now_trip, .int 0])), (a0_now_counts, .inl (E 0, 4, .inl (fun _ => 0))), (a0_refusals, .inl (E 0, 5, .inl (fun _ => 0)))] s.heap.size = A at hD hG ⊢
  have hA : ∀ q : Nat, s.heap.size ≤ q → A q := fun q h => by rw [← hAe]; exact Or.inr h
  have hS : va_S A s.heap s.heap [] := va_S.rf
  have hP : va_P D vwCl [(a0, .inr (6, [.ref a0_now, .ref a0_kept, .int 0, .ref a0_ways, .ref a0_shelves, .ref a0_tape, .ref a0_reader, .ref a0_refusals, .ref a0_bestPack])), (a0_now, .inr (0, [.ref a0_now_counts, .ref a0_now_roads, .ref a0_now_bridges, .ref a0_now_waggons, .ref a0_now_parts, .ref a0_now_settings, .ref a0_now_trip, .int 0])), (a0_now_counts, .inl (E 0, 4, .inl (fun _ => 0))), (a0_refusals, .inl (E 0, 5, .inl (fun _ => 0)))] s.heap := hP
  have hl := lv_entry ([.ref a0, .int v_a, .int v_b]) (n := 3) (Nat.le_of_ble_eq_true rfl)
  rw [lg_entry_eq]
  generalize (lg_sl ([.ref a0, .int v_a, .int v_b]) ++ List.replicate (3 - (lg_sl ([.ref a0, .int v_a, .int v_b])).length) Slot.unset).toArray = ls at hl ⊢
  have hl : lv_has ls 3 [(0, .ref a0), (1, .int v_a), (2, .int v_b)] := hl
  refine lv_aload_n hx hb dX6_roadOf_0 rfl (lv_at hl 0 rfl) ?_
  refine lv_iload_n hx hb dX6_roadOf_1 rfl (lv_at hl 1 rfl) ?_
  refine oh_pV (As := [.int v_a]) (rest := []) (v := 0) ⟨hx, hb, hml, hown, htg⟩ (k_X6_isRoad l D E G a0 v_a a0_now a0_kept a0_ways a0_shelves a0_tape a0_reader a0_refusals a0_bestPack a0_now_counts a0_now_roads a0_now_bridges a0_now_waggons a0_now_parts a0_now_settings a0_now_trip) (cwV 1 htg (oh_gV q_428 q_430 q_5 q_66 q_431) rfl rfl rfl pdVX6_isRoad ⟨Nat.le_of_ble_eq_true rfl, Nat.le_of_ble_eq_true rfl⟩) hK (hP.sub (ws' := [(a0, .inr (6, [.ref a0_now, .ref a0_kept, .int 0, .ref a0_ways, .ref a0_shelves, .ref a0_tape, .ref a0_reader, .ref a0_refusals, .ref a0_bestPack])), (a0_now, .inr (0, [.ref a0_now_counts, .ref a0_now_roads, .ref a0_now_bridges, .ref a0_now_waggons, .ref a0_now_parts, .ref a0_now_settings, .ref a0_now_trip, .int 0])), (a0_now_counts, .inl (E 0, 4, .inl (fun _ => 0)))]) [0, 1, 2] rfl) hG hS (va_recv hK hP (ci := 6) (q0 := 0) rfl rfl) rfl hl.1 rfl (Nat.le_of_ble_eq_true rfl) dX6_roadOf_2 ⟨Nat.le_of_ble_eq_true rfl, Nat.le_of_ble_eq_true rfl⟩ ?_
  refine lv_if_eq (tgt := 18) hx hb dX6_roadOf_5 (by decide) (fun _ => ?_) (fun c => absurd (show (0 : Int32) = 0 from by decide) c)
  refine lv_aload_n hx hb dX6_roadOf_18 rfl (lv_at hl 0 rfl) ?_
  refine lv_bipush (v := (-2)) hx hb dX6_roadOf_19 (by decide) ?_
  refine oh_mV (As := [.int (-2)]) (rest := []) (wr := [(a0_now, .inr (0, [.ref a0_now_counts, .ref a0_now_roads, .ref a0_now_bridges, .ref a0_now_waggons, .ref a0_now_parts, .ref a0_now_settings, .ref a0_now_trip, .int 0])), (a0_now_counts, .inl (E 0, 4, .inl (fun _ => 0)))]) ⟨hx, hb, hml, hown, htg⟩ (c_X6_refuse l D E G s.heap.size a0 (-2) a0_now a0_kept a0_ways a0_shelves a0_tape a0_reader a0_refusals a0_bestPack) (cwV 1 htg (oh_gV q_296 q_298 q_0 q_66 q_299) rfl rfl rfl pdVX6_refuse ⟨Nat.le_of_ble_eq_true rfl, Nat.le_of_ble_eq_true rfl⟩) hK hP hD hG hS hA [0, 3] [1, 2] rfl rfl (by decide) (by decide) (by decide) (va_recv hK hP (ci := 6) (q0 := 0) rfl rfl) rfl hl.1 rfl (Nat.le_of_ble_eq_true rfl) dX6_roadOf_21 ⟨Nat.le_of_ble_eq_true rfl, Nat.le_of_ble_eq_true rfl⟩ (fun r_1 u H locs hw hP hD hS => ?_)
  subst hw
  have hP : va_P D vwCl [(a0_now, .inr (0, [.ref a0_now_counts, .ref a0_now_roads, .ref a0_now_bridges, .ref a0_now_waggons, .ref a0_now_parts, .ref a0_now_settings, .ref a0_now_trip, .int 0])), (a0_now_counts, .inl (E 0, 4, .inl (fun _ => 0))), (a0, .inr (6, [.ref a0_now, .ref a0_kept, .int 0, .ref a0_ways, .ref a0_shelves, .ref a0_tape, .ref a0_reader, .ref a0_refusals, .ref a0_bestPack]))] H := hP
  have hD : va_D A [(a0_now, .inr (0, [.ref a0_now_counts, .ref a0_now_roads, .ref a0_now_bridges, .ref a0_now_waggons, .ref a0_now_parts, .ref a0_now_settings, .ref a0_now_trip, .int 0])), (a0_now_counts, .inl (E 0, 4, .inl (fun _ => 0))), (a0, .inr (6, [.ref a0_now, .ref a0_kept, .int 0, .ref a0_ways, .ref a0_shelves, .ref a0_tape, .ref a0_reader, .ref a0_refusals, .ref a0_bestPack]))] := hD
  refine W.widen (k := 0) (n := 0) (Nat.le_refl _) (Nat.le_refl _) ?_
  refine W.widen (k := 0) (n := 0) (Nat.le_of_ble_eq_true rfl) (Nat.le_of_ble_eq_true rfl) ?_
  exact W.iret (v := (-2)) hx hb hr (fun t ht hW => ⟨⟨(-2), (), rfl, rfl, ⟨by rw [ht]; exact hP.sub [] rfl, hD.sub [] (by decide) rfl⟩⟩, hS.F ht⟩) hS.2.2 dX6_roadOf_24
set_option maxHeartbeats 4000000 in
set_option maxRecDepth 100000 in
theorem c_X6_bridgeOf (l : Launch) (D : va_G) (E : Nat → ClassId) (G : Nat → Nat) (sz : Nat) (a0 : Nat) (v_a : Int32) (v_b : Int32) (a0_now : Nat) (a0_kept : Nat) (a0_ways : Nat) (a0_shelves : Nat) (a0_tape : Nat) (a0_reader : Nat) (a0_refusals : Nat) (a0_bestPack : Nat) (a0_now_counts : Nat) (a0_now_roads : Nat) (a0_now_bridges : Nat) (a0_now_waggons : Nat) (a0_now_parts : Nat) (a0_now_settings : Nat) (a0_now_trip : Nat) : Met l yX6_bridgeOf (oh_w yX6_bridgeOf cX6_bridgeOf 3 (some .int)) ({ frames := 2, cells := 0, slots := 0, locals := 44 }) (oh_Pm D E G [.ref a0, .int v_a, .int v_b] [(a0, .inr (6, [.ref a0_now, .ref a0_kept, .int 0, .ref a0_ways, .ref a0_shelves, .ref a0_tape, .ref a0_reader, .ref a0_refusals, .ref a0_bestPack])), (a0_now, .inr (0, [.ref a0_now_counts, .ref a0_now_roads, .ref a0_now_bridges, .ref a0_now_waggons, .ref a0_now_parts, .ref a0_now_settings, .ref a0_now_trip, .int 0])), (a0_now_counts, .inl (E 0, 4, .inl (fun _ => 0))), (a0_refusals, .inl (E 0, 5, .inl (fun _ => 0)))] sz) (va_Qi (fun r (_ : Unit) => r = (-2)) (oh_B D (va_A [(a0, .inr (6, [.ref a0_now, .ref a0_kept, .int 0, .ref a0_ways, .ref a0_shelves, .ref a0_tape, .ref a0_reader, .ref a0_refusals, .ref a0_bestPack])), (a0_now, .inr (0, [.ref a0_now_counts, .ref a0_now_roads, .ref a0_now_bridges, .ref a0_now_waggons, .ref a0_now_parts, .ref a0_now_settings, .ref a0_now_trip, .int 0])), (a0_now_counts, .inl (E 0, 4, .inl (fun _ => 0))), (a0_refusals, .inl (E 0, 5, .inl (fun _ => 0)))] sz) (fun _ => [])) (va_A [(a0, .inr (6, [.ref a0_now, .ref a0_kept, .int 0, .ref a0_ways, .ref a0_shelves, .ref a0_tape, .ref a0_reader, .ref a0_refusals, .ref a0_bestPack])), (a0_now, .inr (0, [.ref a0_now_counts, .ref a0_now_roads, .ref a0_now_bridges, .ref a0_now_waggons, .ref a0_now_parts, .ref a0_now_settings, .ref a0_now_trip, .int 0])), (a0_now_counts, .inl (E 0, 4, .inl (fun _ => 0))), (a0_refusals, .inl (E 0, 5, .inl (fun _ => 0)))] sz)) 0 0 (va_A [(a0, .inr (6, [.ref a0_now, .ref a0_kept, .int 0, .ref a0_ways, .ref a0_shelves, .ref a0_tape, .ref a0_reader, .ref a0_refusals, .ref a0_bestPack])), (a0_now, .inr (0, [.ref a0_now_counts, .ref a0_now_roads, .ref a0_now_bridges, .ref a0_now_waggons, .ref a0_now_parts, .ref a0_now_settings, .ref a0_now_trip, .int 0])), (a0_now_counts, .inl (E 0, 4, .inl (fun _ => 0))), (a0_refusals, .inl (E 0, 5, .inl (fun _ => 0)))] sz) := by
  refine Met.ofW (cc := cX6_bridgeOf) (maxL := 3) (ret := (some .int)) (by decide) rfl ?_
  intro p e s m args below meth c s₁ B hml hv
  obtain ⟨rfl, hsz, hP, hK, hD0, hG⟩ := hv
  have hx := B.exec
  have hb := B.bytes
  have hr := B.returns
  have hts := atoms_spec (ws := (oh_w yX6_bridgeOf cX6_bridgeOf 3 (some .int))) B.pre
  have htg : ∀ w ∈ oh_t, w.before _ s = true := fun w h => hts w (List.mem_cons_of_mem _ h)
  have hown : s.vm.findClass RX6 = some m.cls := findClass_of_methodNamed B.named
  have hlocks := B.notSynchronized
  subst hsz
  have hD := hD0.self (sz := s.heap.size)
  generalize hAe : va_A [(a0, .inr (6, [.ref a0_now, .ref a0_kept, .int 0, .ref a0_ways, .ref a0_shelves, .ref a0_tape, .ref a0_reader, .ref a0_refusals, .ref a0_bestPack])), (a0_now, .inr (0, [.ref a0_now_counts, .ref a0_now_roads, .ref a0_now_bridges, .ref a0_now_waggons, .ref a0_now_parts, .ref a0_now_settings, .ref a0_now_trip, .int 0])), (a0_now_counts, .inl (E 0, 4, .inl (fun _ => 0))), (a0_refusals, .inl (E 0, 5, .inl (fun _ => 0)))] s.heap.size = A at hD hG ⊢
  have hA : ∀ q : Nat, s.heap.size ≤ q → A q := fun q h => by rw [← hAe]; exact Or.inr h
  have hS : va_S A s.heap s.heap [] := va_S.rf
  have hP : va_P D vwCl [(a0, .inr (6, [.ref a0_now, .ref a0_kept, .int 0, .ref a0_ways, .ref a0_shelves, .ref a0_tape, .ref a0_reader, .ref a0_refusals, .ref a0_bestPack])), (a0_now, .inr (0, [.ref a0_now_counts, .ref a0_now_roads, .ref a0_now_bridges, .ref a0_now_waggons, .ref a0_now_parts, .ref a0_now_settings, .ref a0_now_trip, .int 0])), (a0_now_counts, .inl (E 0, 4, .inl (fun _ => 0))), (a0_refusals, .inl (E 0, 5, .inl (fun _ => 0)))] s.heap := hP
  have hl := lv_entry ([.ref a0, .int v_a, .int v_b]) (n := 3) (Nat.le_of_ble_eq_true rfl)
  rw [lg_entry_eq]
  generalize (lg_sl ([.ref a0, .int v_a, .int v_b]) ++ List.replicate (3 - (lg_sl ([.ref a0, .int v_a, .int v_b])).length) Slot.unset).toArray = ls at hl ⊢
  have hl : lv_has ls 3 [(0, .ref a0), (1, .int v_a), (2, .int v_b)] := hl
  refine lv_aload_n hx hb dX6_bridgeOf_0 rfl (lv_at hl 0 rfl) ?_
  refine lv_iload_n hx hb dX6_bridgeOf_1 rfl (lv_at hl 1 rfl) ?_
  refine oh_pV (As := [.int v_a]) (rest := []) (v := 0) ⟨hx, hb, hml, hown, htg⟩ (k_X6_isBridge l D E G a0 v_a a0_now a0_kept a0_ways a0_shelves a0_tape a0_reader a0_refusals a0_bestPack a0_now_counts a0_now_roads a0_now_bridges a0_now_waggons a0_now_parts a0_now_settings a0_now_trip) (cwV 1 htg (oh_gV q_366 q_368 q_2 q_66 q_369) rfl rfl rfl pdVX6_isBridge ⟨Nat.le_of_ble_eq_true rfl, Nat.le_of_ble_eq_true rfl⟩) hK (hP.sub (ws' := [(a0, .inr (6, [.ref a0_now, .ref a0_kept, .int 0, .ref a0_ways, .ref a0_shelves, .ref a0_tape, .ref a0_reader, .ref a0_refusals, .ref a0_bestPack])), (a0_now, .inr (0, [.ref a0_now_counts, .ref a0_now_roads, .ref a0_now_bridges, .ref a0_now_waggons, .ref a0_now_parts, .ref a0_now_settings, .ref a0_now_trip, .int 0])), (a0_now_counts, .inl (E 0, 4, .inl (fun _ => 0)))]) [0, 1, 2] rfl) hG hS (va_recv hK hP (ci := 6) (q0 := 0) rfl rfl) rfl hl.1 rfl (Nat.le_of_ble_eq_true rfl) dX6_bridgeOf_2 ⟨Nat.le_of_ble_eq_true rfl, Nat.le_of_ble_eq_true rfl⟩ ?_
  refine lv_if_eq (tgt := 18) hx hb dX6_bridgeOf_5 (by decide) (fun _ => ?_) (fun c => absurd (show (0 : Int32) = 0 from by decide) c)
  refine lv_aload_n hx hb dX6_bridgeOf_18 rfl (lv_at hl 0 rfl) ?_
  refine lv_bipush (v := (-2)) hx hb dX6_bridgeOf_19 (by decide) ?_
  refine oh_mV (As := [.int (-2)]) (rest := []) (wr := [(a0_now, .inr (0, [.ref a0_now_counts, .ref a0_now_roads, .ref a0_now_bridges, .ref a0_now_waggons, .ref a0_now_parts, .ref a0_now_settings, .ref a0_now_trip, .int 0])), (a0_now_counts, .inl (E 0, 4, .inl (fun _ => 0)))]) ⟨hx, hb, hml, hown, htg⟩ (c_X6_refuse l D E G s.heap.size a0 (-2) a0_now a0_kept a0_ways a0_shelves a0_tape a0_reader a0_refusals a0_bestPack) (cwV 1 htg (oh_gV q_296 q_298 q_0 q_66 q_299) rfl rfl rfl pdVX6_refuse ⟨Nat.le_of_ble_eq_true rfl, Nat.le_of_ble_eq_true rfl⟩) hK hP hD hG hS hA [0, 3] [1, 2] rfl rfl (by decide) (by decide) (by decide) (va_recv hK hP (ci := 6) (q0 := 0) rfl rfl) rfl hl.1 rfl (Nat.le_of_ble_eq_true rfl) dX6_bridgeOf_21 ⟨Nat.le_of_ble_eq_true rfl, Nat.le_of_ble_eq_true rfl⟩ (fun r_1 u H locs hw hP hD hS => ?_)
  subst hw
  have hP : va_P D vwCl [(a0_now, .inr (0, [.ref a0_now_counts, .ref a0_now_roads, .ref a0_now_bridges, .ref a0_now_waggons, .ref a0_now_parts, .ref a0_now_settings, .ref a0_now_trip, .int 0])), (a0_now_counts, .inl (E 0, 4, .inl (fun _ => 0))), (a0, .inr (6, [.ref a0_now, .ref a0_kept, .int 0, .ref a0_ways, .ref a0_shelves, .ref a0_tape, .ref a0_reader, .ref a0_refusals, .ref a0_bestPack]))] H := hP
  have hD : va_D A [(a0_now, .inr (0, [.ref a0_now_counts, .ref a0_now_roads, .ref a0_now_bridges, .ref a0_now_waggons, .ref a0_now_parts, .ref a0_now_settings, .ref a0_now_trip, .int 0])), (a0_now_counts, .inl (E 0, 4, .inl (fun _ => 0))), (a0, .inr (6, [.ref a0_now, .ref a0_kept, .int 0, .ref a0_ways, .ref a0_shelves, .ref a0_tape, .ref a0_reader, .ref a0_refusals, .ref a0_bestPack]))] := hD
  refine W.widen (k := 0) (n := 0) (Nat.le_refl _) (Nat.le_refl _) ?_
  refine W.widen (k := 0) (n := 0) (Nat.le_of_ble_eq_true rfl) (Nat.le_of_ble_eq_true rfl) ?_
  exact W.iret (v := (-2)) hx hb hr (fun t ht hW => ⟨⟨(-2), (), rfl, rfl, ⟨by rw [ht]; exact hP.sub [] rfl, hD.sub [] (by decide) rfl⟩⟩, hS.F ht⟩) hS.2.2 dX6_bridgeOf_24
set_option maxHeartbeats 4000000 in
set_option maxRecDepth 100000 in
theorem c_X6_length (l : Launch) (D : va_G) (E : Nat → ClassId) (G : Nat → Nat) (sz : Nat) (a0 : Nat) (v_a : Int32) (a0_now : Nat) (a0_kept : Nat) (a0_ways : Nat) (a0_shelves : Nat) (a0_tape : Nat) (a0_reader : Nat) (a0_refusals : Nat) (a0_bestPack : Nat) (a0_now_counts : Nat) (a0_now_roads : Nat) (a0_now_bridges : Nat) (a0_now_waggons : Nat) (a0_now_parts : Nat) (a0_now_settings : Nat) (a0_now_trip : Nat) : Met l yX6_length (oh_w yX6_length cX6_length 2 (some .int)) ({ frames := 2, cells := 0, slots := 0, locals := 44 }) (oh_Pm D E G [.ref a0, .int v_a] [(a0, .inr (6, [.ref a0_now, .ref a0_kept, .int 0, .ref a0_ways, .ref a0_shelves, .ref a0_tape, .ref a0_reader, .ref a0_refusals, .ref a0_bestPack])), (a0_now, .inr (0, [.ref a0_now_counts, .ref a0_now_roads, .ref a0_now_bridges, .ref a0_now_waggons, .ref a0_now_parts, .ref a0_now_settings, .ref a0_now_trip, .int 0])), (a0_now_counts, .inl (E 0, 4, .inl (fun _ => 0))), (a0_refusals, .inl (E 0, 5, .inl (fun _ => 0)))] sz) (va_Qi (fun r (_ : Unit) => r = (-2)) (oh_B D (va_A [(a0, .inr (6, [.ref a0_now, .ref a0_kept, .int 0, .ref a0_ways, .ref a0_shelves, .ref a0_tape, .ref a0_reader, .ref a0_refusals, .ref a0_bestPack])), (a0_now, .inr (0, [.ref a0_now_counts, .ref a0_now_roads, .ref a0_now_bridges, .ref a0_now_waggons, .ref a0_now_parts, .ref a0_now_settings, .ref a0_now_trip, .int 0])), (a0_now_counts, .inl (E 0, 4, .inl (fun _ => 0))), (a0_refusals, .inl (E 0, 5, .inl (fun _ => 0)))] sz) (fun _ => [])) (va_A [(a0, .inr (6, [.ref a0_now, .ref a0_kept, .int 0, .ref a0_ways, .ref a0_shelves, .ref a0_tape, .ref a0_reader, .ref a0_refusals, .ref a0_bestPack])), (a0_now, .inr (0, [.ref a0_now_counts, .ref a0_now_roads, .ref a0_now_bridges, .ref a0_now_waggons, .ref a0_now_parts, .ref a0_now_settings, .ref a0_now_trip, .int 0])), (a0_now_counts, .inl (E 0, 4, .inl (fun _ => 0))), (a0_refusals, .inl (E 0, 5, .inl (fun _ => 0)))] sz)) 0 0 (va_A [(a0, .inr (6, [.ref a0_now, .ref a0_kept, .int 0, .ref a0_ways, .ref a0_shelves, .ref a0_tape, .ref a0_reader, .ref a0_refusals, .ref a0_bestPack])), (a0_now, .inr (0, [.ref a0_now_counts, .ref a0_now_roads, .ref a0_now_bridges, .ref a0_now_waggons, .ref a0_now_parts, .ref a0_now_settings, .ref a0_now_trip, .int 0])), (a0_now_counts, .inl (E 0, 4, .inl (fun _ => 0))), (a0_refusals, .inl (E 0, 5, .inl (fun _ => 0)))] sz) := by
  refine Met.ofW (cc := cX6_length) (maxL := 2) (ret := (some .int)) (by decide) rfl ?_
  intro p e s m args below meth c s₁ B hml hv
  obtain ⟨rfl, hsz, hP, hK, hD0, hG⟩ := hv
  have hx := B.exec
  have hb := B.bytes
  have hr := B.returns
  have hts := atoms_spec (ws := (oh_w yX6_length cX6_length 2 (some .int))) B.pre
  have htg : ∀ w ∈ oh_t, w.before _ s = true := fun w h => hts w (List.mem_cons_of_mem _ h)
  have hown : s.vm.findClass RX6 = some m.cls := findClass_of_methodNamed B.named
  have hlocks := B.notSynchronized
  subst hsz
  have hD := hD0.self (sz := s.heap.size)
  generalize hAe : va_A [(a0, .inr (6, [.ref a0_now, .ref a0_kept, .int 0, .ref a0_ways, .ref a0_shelves, .ref a0_tape, .ref a0_reader, .ref a0_refusals, .ref a0_bestPack])), (a0_now, .inr (0, [.ref a0_now_counts, .ref a0_now_roads, .ref a0_now_bridges, .ref a0_now_waggons, .ref a0_now_parts, .ref a0_now_settings, .ref a0_now_trip, .int 0])), (a0_now_counts, .inl (E 0, 4, .inl (fun _ => 0))), (a0_refusals, .inl (E 0, 5, .inl (fun _ => 0)))] s.heap.size = A at hD hG ⊢
  have hA : ∀ q : Nat, s.heap.size ≤ q → A q := fun q h => by rw [← hAe]; exact Or.inr h
  have hS : va_S A s.heap s.heap [] := va_S.rf
  have hP : va_P D vwCl [(a0, .inr (6, [.ref a0_now, .ref a0_kept, .int 0, .ref a0_ways, .ref a0_shelves, .ref a0_tape, .ref a0_reader, .ref a0_refusals, .ref a0_bestPack])), (a0_now, .inr (0, [.ref a0_now_counts, .ref a0_now_roads, .ref a0_now_bridges, .ref a0_now_waggons, .ref a0_now_parts, .ref a0_now_settings, .ref a0_now_trip, .int 0])), (a0_now_counts, .inl (E 0, 4, .inl (fun _ => 0))), (a0_refusals, .inl (E 0, 5, .inl (fun _ => 0)))] s.heap := hP
  have hl := lv_entry ([.ref a0, .int v_a]) (n := 2) (Nat.le_of_ble_eq_true rfl)
  rw [lg_entry_eq]
  generalize (lg_sl ([.ref a0, .int v_a]) ++ List.replicate (2 - (lg_sl ([.ref a0, .int v_a])).length) Slot.unset).toArray = ls at hl ⊢
  have hl : lv_has ls 2 [(0, .ref a0), (1, .int v_a)] := hl
  refine lv_aload_n hx hb dX6_length_0 rfl (lv_at hl 0 rfl) ?_
  refine lv_iload_n hx hb dX6_length_1 rfl (lv_at hl 1 rfl) ?_
  refine oh_pV (As := [.int v_a]) (rest := []) (v := 0) ⟨hx, hb, hml, hown, htg⟩ (k_X6_isWaggon l D E G a0 v_a a0_now a0_kept a0_ways a0_shelves a0_tape a0_reader a0_refusals a0_bestPack a0_now_counts a0_now_roads a0_now_bridges a0_now_waggons a0_now_parts a0_now_settings a0_now_trip) (cwV 1 htg (oh_gV q_679 q_681 q_15 q_66 q_682) rfl rfl rfl pdVX6_isWaggon ⟨Nat.le_of_ble_eq_true rfl, Nat.le_of_ble_eq_true rfl⟩) hK (hP.sub (ws' := [(a0, .inr (6, [.ref a0_now, .ref a0_kept, .int 0, .ref a0_ways, .ref a0_shelves, .ref a0_tape, .ref a0_reader, .ref a0_refusals, .ref a0_bestPack])), (a0_now, .inr (0, [.ref a0_now_counts, .ref a0_now_roads, .ref a0_now_bridges, .ref a0_now_waggons, .ref a0_now_parts, .ref a0_now_settings, .ref a0_now_trip, .int 0])), (a0_now_counts, .inl (E 0, 4, .inl (fun _ => 0)))]) [0, 1, 2] rfl) hG hS (va_recv hK hP (ci := 6) (q0 := 0) rfl rfl) rfl hl.1 rfl (Nat.le_of_ble_eq_true rfl) dX6_length_2 ⟨Nat.le_of_ble_eq_true rfl, Nat.le_of_ble_eq_true rfl⟩ ?_
  refine lv_if_ne (tgt := 15) hx hb dX6_length_5 (by decide) (fun c => absurd (show (0 : Int32) = 0 from by decide) c) (fun _ => ?_)
  refine lv_aload_n hx hb dX6_length_8 rfl (lv_at hl 0 rfl) ?_
  refine lv_bipush (v := (-2)) hx hb dX6_length_9 (by decide) ?_
  refine oh_mV (As := [.int (-2)]) (rest := []) (wr := [(a0_now, .inr (0, [.ref a0_now_counts, .ref a0_now_roads, .ref a0_now_bridges, .ref a0_now_waggons, .ref a0_now_parts, .ref a0_now_settings, .ref a0_now_trip, .int 0])), (a0_now_counts, .inl (E 0, 4, .inl (fun _ => 0)))]) ⟨hx, hb, hml, hown, htg⟩ (c_X6_refuse l D E G s.heap.size a0 (-2) a0_now a0_kept a0_ways a0_shelves a0_tape a0_reader a0_refusals a0_bestPack) (cwV 1 htg (oh_gV q_296 q_298 q_0 q_66 q_299) rfl rfl rfl pdVX6_refuse ⟨Nat.le_of_ble_eq_true rfl, Nat.le_of_ble_eq_true rfl⟩) hK hP hD hG hS hA [0, 3] [1, 2] rfl rfl (by decide) (by decide) (by decide) (va_recv hK hP (ci := 6) (q0 := 0) rfl rfl) rfl hl.1 rfl (Nat.le_of_ble_eq_true rfl) dX6_length_11 ⟨Nat.le_of_ble_eq_true rfl, Nat.le_of_ble_eq_true rfl⟩ (fun r_1 u H locs hw hP hD hS => ?_)
  subst hw
  have hP : va_P D vwCl [(a0_now, .inr (0, [.ref a0_now_counts, .ref a0_now_roads, .ref a0_now_bridges, .ref a0_now_waggons, .ref a0_now_parts, .ref a0_now_settings, .ref a0_now_trip, .int 0])), (a0_now_counts, .inl (E 0, 4, .inl (fun _ => 0))), (a0, .inr (6, [.ref a0_now, .ref a0_kept, .int 0, .ref a0_ways, .ref a0_shelves, .ref a0_tape, .ref a0_reader, .ref a0_refusals, .ref a0_bestPack]))] H := hP
  have hD : va_D A [(a0_now, .inr (0, [.ref a0_now_counts, .ref a0_now_roads, .ref a0_now_bridges, .ref a0_now_waggons, .ref a0_now_parts, .ref a0_now_settings, .ref a0_now_trip, .int 0])), (a0_now_counts, .inl (E 0, 4, .inl (fun _ => 0))), (a0, .inr (6, [.ref a0_now, .ref a0_kept, .int 0, .ref a0_ways, .ref a0_shelves, .ref a0_tape, .ref a0_reader, .ref a0_refusals, .ref a0_bestPack]))] := hD
  refine W.widen (k := 0) (n := 0) (Nat.le_refl _) (Nat.le_refl _) ?_
  refine W.widen (k := 0) (n := 0) (Nat.le_of_ble_eq_true rfl) (Nat.le_of_ble_eq_true rfl) ?_
  exact W.iret (v := (-2)) hx hb hr (fun t ht hW => ⟨⟨(-2), (), rfl, rfl, ⟨by rw [ht]; exact hP.sub [] rfl, hD.sub [] (by decide) rfl⟩⟩, hS.F ht⟩) hS.2.2 dX6_length_14
set_option maxHeartbeats 4000000 in
set_option maxRecDepth 100000 in
theorem c_X6_axle (l : Launch) (D : va_G) (E : Nat → ClassId) (G : Nat → Nat) (sz : Nat) (a0 : Nat) (v_a : Int32) (v_b : Int32) (a0_now : Nat) (a0_kept : Nat) (a0_ways : Nat) (a0_shelves : Nat) (a0_tape : Nat) (a0_reader : Nat) (a0_refusals : Nat) (a0_bestPack : Nat) (a0_now_counts : Nat) (a0_now_roads : Nat) (a0_now_bridges : Nat) (a0_now_waggons : Nat) (a0_now_parts : Nat) (a0_now_settings : Nat) (a0_now_trip : Nat) : Met l yX6_axle (oh_w yX6_axle cX6_axle 3 (some .int)) ({ frames := 3, cells := 0, slots := 0, locals := 65 }) (oh_Pm D E G [.ref a0, .int v_a, .int v_b] [(a0, .inr (6, [.ref a0_now, .ref a0_kept, .int 0, .ref a0_ways, .ref a0_shelves, .ref a0_tape, .ref a0_reader, .ref a0_refusals, .ref a0_bestPack])), (a0_now, .inr (0, [.ref a0_now_counts, .ref a0_now_roads, .ref a0_now_bridges, .ref a0_now_waggons, .ref a0_now_parts, .ref a0_now_settings, .ref a0_now_trip, .int 0])), (a0_now_counts, .inl (E 0, 4, .inl (fun _ => 0))), (a0_refusals, .inl (E 0, 5, .inl (fun _ => 0)))] sz) (va_Qi (fun r (_ : Unit) => r = (-2)) (oh_B D (va_A [(a0, .inr (6, [.ref a0_now, .ref a0_kept, .int 0, .ref a0_ways, .ref a0_shelves, .ref a0_tape, .ref a0_reader, .ref a0_refusals, .ref a0_bestPack])), (a0_now, .inr (0, [.ref a0_now_counts, .ref a0_now_roads, .ref a0_now_bridges, .ref a0_now_waggons, .ref a0_now_parts, .ref a0_now_settings, .ref a0_now_trip, .int 0])), (a0_now_counts, .inl (E 0, 4, .inl (fun _ => 0))), (a0_refusals, .inl (E 0, 5, .inl (fun _ => 0)))] sz) (fun _ => [])) (va_A [(a0, .inr (6, [.ref a0_now, .ref a0_kept, .int 0, .ref a0_ways, .ref a0_shelves, .ref a0_tape, .ref a0_reader, .ref a0_refusals, .ref a0_bestPack])), (a0_now, .inr (0, [.ref a0_now_counts, .ref a0_now_roads, .ref a0_now_bridges, .ref a0_now_waggons, .ref a0_now_parts, .ref a0_now_settings, .ref a0_now_trip, .int 0])), (a0_now_counts, .inl (E 0, 4, .inl (fun _ => 0))), (a0_refusals, .inl (E 0, 5, .inl (fun _ => 0)))] sz)) 0 0 (va_A [(a0, .inr (6, [.ref a0_now, .ref a0_kept, .int 0, .ref a0_ways, .ref a0_shelves, .ref a0_tape, .ref a0_reader, .ref a0_refusals, .ref a0_bestPack])), (a0_now, .inr (0, [.ref a0_now_counts, .ref a0_now_roads, .ref a0_now_bridges, .ref a0_now_waggons, .ref a0_now_parts, .ref a0_now_settings, .ref a0_now_trip, .int 0])), (a0_now_counts, .inl (E 0, 4, .inl (fun _ => 0))), (a0_refusals, .inl (E 0, 5, .inl (fun _ => 0)))] sz) := by
  refine Met.ofW (cc := cX6_axle) (maxL := 3) (ret := (some .int)) (by decide) rfl ?_
  intro p e s m args below meth c s₁ B hml hv
  obtain ⟨rfl, hsz, hP, hK, hD0, hG⟩ := hv
  have hx := B.exec
  have hb := B.bytes
  have hr := B.returns
  have hts := atoms_spec (ws := (oh_w yX6_axle cX6_axle 3 (some .int))) B.pre
  have htg : ∀ w ∈ oh_t, w.before _ s = true := fun w h => hts w (List.mem_cons_of_mem _ h)
  have hown : s.vm.findClass RX6 = some m.cls := findClass_of_methodNamed B.named
  have hlocks := B.notSynchronized
  subst hsz
  have hD := hD0.self (sz := s.heap.size)
  generalize hAe : va_A [(a0, .inr (6, [.ref a0_now, .ref a0_kept, .int 0, .ref a0_ways, .ref a0_shelves, .ref a0_tape, .ref a0_reader, .ref a0_refusals, .ref a0_bestPack])), (a0_now, .inr (0, [.ref a0_now_counts, .ref a0_now_roads, .ref a0_now_bridges, .ref a0_now_waggons, .ref a0_now_parts, .ref a0_now_settings, .ref a0_now_trip, .int 0])), (a0_now_counts, .inl (E 0, 4, .inl (fun _ => 0))), (a0_refusals, .inl (E 0, 5, .inl (fun _ => 0)))] s.heap.size = A at hD hG ⊢
  have hA : ∀ q : Nat, s.heap.size ≤ q → A q := fun q h => by rw [← hAe]; exact Or.inr h
  have hS : va_S A s.heap s.heap [] := va_S.rf
  have hP : va_P D vwCl [(a0, .inr (6, [.ref a0_now, .ref a0_kept, .int 0, .ref a0_ways, .ref a0_shelves, .ref a0_tape, .ref a0_reader, .ref a0_refusals, .ref a0_bestPack])), (a0_now, .inr (0, [.ref a0_now_counts, .ref a0_now_roads, .ref a0_now_bridges, .ref a0_now_waggons, .ref a0_now_parts, .ref a0_now_settings, .ref a0_now_trip, .int 0])), (a0_now_counts, .inl (E 0, 4, .inl (fun _ => 0))), (a0_refusals, .inl (E 0, 5, .inl (fun _ => 0)))] s.heap := hP
  have hl := lv_entry ([.ref a0, .int v_a, .int v_b]) (n := 3) (Nat.le_of_ble_eq_true rfl)
  rw [lg_entry_eq]
  generalize (lg_sl ([.ref a0, .int v_a, .int v_b]) ++ List.replicate (3 - (lg_sl ([.ref a0, .int v_a, .int v_b])).length) Slot.unset).toArray = ls at hl ⊢
  have hl : lv_has ls 3 [(0, .ref a0), (1, .int v_a), (2, .int v_b)] := hl
  refine lv_aload_n hx hb dX6_axle_0 rfl (lv_at hl 0 rfl) ?_
  refine lv_iload_n hx hb dX6_axle_1 rfl (lv_at hl 1 rfl) ?_
  refine lv_iload_n hx hb dX6_axle_2 rfl (lv_at hl 2 rfl) ?_
  refine oh_pV (As := [.int v_a, .int v_b]) (rest := []) (v := 0) ⟨hx, hb, hml, hown, htg⟩ (c_X6_isPack l D E G a0 v_a v_b a0_now a0_kept a0_ways a0_shelves a0_tape a0_reader a0_refusals a0_bestPack a0_now_counts a0_now_roads a0_now_bridges a0_now_waggons a0_now_parts a0_now_settings a0_now_trip) (cwV 2 htg (oh_gV q_695 q_697 q_16 q_66 q_698) rfl rfl rfl pdVX6_isPack ⟨Nat.le_of_ble_eq_true rfl, Nat.le_of_ble_eq_true rfl⟩) hK (hP.sub (ws' := [(a0, .inr (6, [.ref a0_now, .ref a0_kept, .int 0, .ref a0_ways, .ref a0_shelves, .ref a0_tape, .ref a0_reader, .ref a0_refusals, .ref a0_bestPack])), (a0_now, .inr (0, [.ref a0_now_counts, .ref a0_now_roads, .ref a0_now_bridges, .ref a0_now_waggons, .ref a0_now_parts, .ref a0_now_settings, .ref a0_now_trip, .int 0])), (a0_now_counts, .inl (E 0, 4, .inl (fun _ => 0)))]) [0, 1, 2] rfl) hG hS (va_recv hK hP (ci := 6) (q0 := 0) rfl rfl) rfl hl.1 rfl (Nat.le_of_ble_eq_true rfl) dX6_axle_3 ⟨Nat.le_of_ble_eq_true rfl, Nat.le_of_ble_eq_true rfl⟩ ?_
  refine lv_if_ne (tgt := 16) hx hb dX6_axle_6 (by decide) (fun c => absurd (show (0 : Int32) = 0 from by decide) c) (fun _ => ?_)
  refine lv_aload_n hx hb dX6_axle_9 rfl (lv_at hl 0 rfl) ?_
  refine lv_bipush (v := (-2)) hx hb dX6_axle_10 (by decide) ?_
  refine oh_mV (As := [.int (-2)]) (rest := []) (wr := [(a0_now, .inr (0, [.ref a0_now_counts, .ref a0_now_roads, .ref a0_now_bridges, .ref a0_now_waggons, .ref a0_now_parts, .ref a0_now_settings, .ref a0_now_trip, .int 0])), (a0_now_counts, .inl (E 0, 4, .inl (fun _ => 0)))]) ⟨hx, hb, hml, hown, htg⟩ (c_X6_refuse l D E G s.heap.size a0 (-2) a0_now a0_kept a0_ways a0_shelves a0_tape a0_reader a0_refusals a0_bestPack) (cwV 1 htg (oh_gV q_296 q_298 q_0 q_66 q_299) rfl rfl rfl pdVX6_refuse ⟨Nat.le_of_ble_eq_true rfl, Nat.le_of_ble_eq_true rfl⟩) hK hP hD hG hS hA [0, 3] [1, 2] rfl rfl (by decide) (by decide) (by decide) (va_recv hK hP (ci := 6) (q0 := 0) rfl rfl) rfl hl.1 rfl (Nat.le_of_ble_eq_true rfl) dX6_axle_12 ⟨Nat.le_of_ble_eq_true rfl, Nat.le_of_ble_eq_true rfl⟩ (fun r_1 u H locs hw hP hD hS => ?_)
  subst hw
  have hP : va_P D vwCl [(a0_now, .inr (0, [.ref a0_now_counts, .ref a0_now_roads, .ref a0_now_bridges, .ref a0_now_waggons, .ref a0_now_parts, .ref a0_now_settings, .ref a0_now_trip, .int 0])), (a0_now_counts, .inl (E 0, 4, .inl (fun _ => 0))), (a0, .inr (6, [.ref a0_now, .ref a0_kept, .int 0, .ref a0_ways, .ref a0_shelves, .ref a0_tape, .ref a0_reader, .ref a0_refusals, .ref a0_bestPack]))] H := hP
  have hD : va_D A [(a0_now, .inr (0, [.ref a0_now_counts, .ref a0_now_roads, .ref a0_now_bridges, .ref a0_now_waggons, .ref a0_now_parts, .ref a0_now_settings, .ref a0_now_trip, .int 0])), (a0_now_counts, .inl (E 0, 4, .inl (fun _ => 0))), (a0, .inr (6, [.ref a0_now, .ref a0_kept, .int 0, .ref a0_ways, .ref a0_shelves, .ref a0_tape, .ref a0_reader, .ref a0_refusals, .ref a0_bestPack]))] := hD
  refine W.widen (k := 0) (n := 0) (Nat.le_refl _) (Nat.le_refl _) ?_
  refine W.widen (k := 0) (n := 0) (Nat.le_of_ble_eq_true rfl) (Nat.le_of_ble_eq_true rfl) ?_
  exact W.iret (v := (-2)) hx hb hr (fun t ht hW => ⟨⟨(-2), (), rfl, rfl, ⟨by rw [ht]; exact hP.sub [] rfl, hD.sub [] (by decide) rfl⟩⟩, hS.F ht⟩) hS.2.2 dX6_axle_15
set_option maxHeartbeats 4000000 in
set_option maxRecDepth 100000 in
theorem c_X6_strain (l : Launch) (D : va_G) (E : Nat → ClassId) (G : Nat → Nat) (sz : Nat) (a0 : Nat) (v_a : Int32) (v_b : Int32) (v_c : Int32) (a0_now : Nat) (a0_kept : Nat) (a0_ways : Nat) (a0_shelves : Nat) (a0_tape : Nat) (a0_reader : Nat) (a0_refusals : Nat) (a0_bestPack : Nat) (a0_now_counts : Nat) (a0_now_roads : Nat) (a0_now_bridges : Nat) (a0_now_waggons : Nat) (a0_now_parts : Nat) (a0_now_settings : Nat) (a0_now_trip : Nat) : Met l yX6_strain (oh_w yX6_strain cX6_strain 4 (some .int)) ({ frames := 3, cells := 0, slots := 0, locals := 65 }) (oh_Pm D E G [.ref a0, .int v_a, .int v_b, .int v_c] [(a0, .inr (6, [.ref a0_now, .ref a0_kept, .int 0, .ref a0_ways, .ref a0_shelves, .ref a0_tape, .ref a0_reader, .ref a0_refusals, .ref a0_bestPack])), (a0_now, .inr (0, [.ref a0_now_counts, .ref a0_now_roads, .ref a0_now_bridges, .ref a0_now_waggons, .ref a0_now_parts, .ref a0_now_settings, .ref a0_now_trip, .int 0])), (a0_now_counts, .inl (E 0, 4, .inl (fun _ => 0))), (a0_refusals, .inl (E 0, 5, .inl (fun _ => 0)))] sz) (va_Qi (fun r (_ : Unit) => r = (-2)) (oh_B D (va_A [(a0, .inr (6, [.ref a0_now, .ref a0_kept, .int 0, .ref a0_ways, .ref a0_shelves, .ref a0_tape, .ref a0_reader, .ref a0_refusals, .ref a0_bestPack])), (a0_now, .inr (0, [.ref a0_now_counts, .ref a0_now_roads, .ref a0_now_bridges, .ref a0_now_waggons, .ref a0_now_parts, .ref a0_now_settings, .ref a0_now_trip, .int 0])), (a0_now_counts, .inl (E 0, 4, .inl (fun _ => 0))), (a0_refusals, .inl (E 0, 5, .inl (fun _ => 0)))] sz) (fun _ => [])) (va_A [(a0, .inr (6, [.ref a0_now, .ref a0_kept, .int 0, .ref a0_ways, .ref a0_shelves, .ref a0_tape, .ref a0_reader, .ref a0_refusals, .ref a0_bestPack])), (a0_now, .inr (0, [.ref a0_now_counts, .ref a0_now_roads, .ref a0_now_bridges, .ref a0_now_waggons, .ref a0_now_parts, .ref a0_now_settings, .ref a0_now_trip, .int 0])), (a0_now_counts, .inl (E 0, 4, .inl (fun _ => 0))), (a0_refusals, .inl (E 0, 5, .inl (fun _ => 0)))] sz)) 0 0 (va_A [(a0, .inr (6, [.ref a0_now, .ref a0_kept, .int 0, .ref a0_ways, .ref a0_shelves, .ref a0_tape, .ref a0_reader, .ref a0_refusals, .ref a0_bestPack])), (a0_now, .inr (0, [.ref a0_now_counts, .ref a0_now_roads, .ref a0_now_bridges, .ref a0_now_waggons, .ref a0_now_parts, .ref a0_now_settings, .ref a0_now_trip, .int 0])), (a0_now_counts, .inl (E 0, 4, .inl (fun _ => 0))), (a0_refusals, .inl (E 0, 5, .inl (fun _ => 0)))] sz) := by
  refine Met.ofW (cc := cX6_strain) (maxL := 4) (ret := (some .int)) (by decide) rfl ?_
  intro p e s m args below meth c s₁ B hml hv
  obtain ⟨rfl, hsz, hP, hK, hD0, hG⟩ := hv
  have hx := B.exec
  have hb := B.bytes
  have hr := B.returns
  have hts := atoms_spec (ws := (oh_w yX6_strain cX6_strain 4 (some .int))) B.pre
  have htg : ∀ w ∈ oh_t, w.before _ s = true := fun w h => hts w (List.mem_cons_of_mem _ h)
  have hown : s.vm.findClass RX6 = some m.cls := findClass_of_methodNamed B.named
  have hlocks := B.notSynchronized
  subst hsz
  have hD := hD0.self (sz := s.heap.size)
  generalize hAe : va_A [(a0, .inr (6, [.ref a0_now, .ref a0_kept, .int 0, .ref a0_ways, .ref a0_shelves, .ref a0_tape, .ref a0_reader, .ref a0_refusals, .ref a0_bestPack])), (a0_now, .inr (0, [.ref a0_now_counts, .ref a0_now_roads, .ref a0_now_bridges, .ref a0_now_waggons, .ref a0_now_parts, .ref a0_now_settings, .ref a0_now_trip, .int 0])), (a0_now_counts, .inl (E 0, 4, .inl (fun _ => 0))), (a0_refusals, .inl (E 0, 5, .inl (fun _ => 0)))] s.heap.size = A at hD hG ⊢
  have hA : ∀ q : Nat, s.heap.size ≤ q → A q := fun q h => by rw [← hAe]; exact Or.inr h
  have hS : va_S A s.heap s.heap [] := va_S.rf
  have hP : va_P D vwCl [(a0, .inr (6, [.ref a0_now, .ref a0_kept, .int 0, .ref a0_ways, .ref a0_shelves, .ref a0_tape, .ref a0_reader, .ref a0_refusals, .ref a0_bestPack])), (a0_now, .inr (0, [.ref a0_now_counts, .ref a0_now_roads, .ref a0_now_bridges, .ref a0_now_waggons, .ref a0_now_parts, .ref a0_now_settings, .ref a0_now_trip, .int 0])), (a0_now_counts, .inl (E 0, 4, .inl (fun _ => 0))), (a0_refusals, .inl (E 0, 5, .inl (fun _ => 0)))] s.heap := hP
  have hl := lv_entry ([.ref a0, .int v_a, .int v_b, .int v_c]) (n := 4) (Nat.le_of_ble_eq_true rfl)
  rw [lg_entry_eq]
  generalize (lg_sl ([.ref a0, .int v_a, .int v_b, .int v_c]) ++ List.replicate (4 - (lg_sl ([.ref a0, .int v_a, .int v_b, .int v_c])).length) Slot.unset).toArray = ls at hl ⊢
  have hl : lv_has ls 4 [(0, .ref a0), (1, .int v_a), (2, .int v_b), (3, .int v_c)] := hl
  refine lv_aload_n hx hb dX6_strain_0 rfl (lv_at hl 0 rfl) ?_
  refine lv_iload_n hx hb dX6_strain_1 rfl (lv_at hl 1 rfl) ?_
  refine lv_iload_n hx hb dX6_strain_2 rfl (lv_at hl 2 rfl) ?_
  refine oh_pV (As := [.int v_a, .int v_b]) (rest := []) (v := 0) ⟨hx, hb, hml, hown, htg⟩ (c_X6_isPack l D E G a0 v_a v_b a0_now a0_kept a0_ways a0_shelves a0_tape a0_reader a0_refusals a0_bestPack a0_now_counts a0_now_roads a0_now_bridges a0_now_waggons a0_now_parts a0_now_settings a0_now_trip) (cwV 2 htg (oh_gV q_695 q_697 q_16 q_66 q_698) rfl rfl rfl pdVX6_isPack ⟨Nat.le_of_ble_eq_true rfl, Nat.le_of_ble_eq_true rfl⟩) hK (hP.sub (ws' := [(a0, .inr (6, [.ref a0_now, .ref a0_kept, .int 0, .ref a0_ways, .ref a0_shelves, .ref a0_tape, .ref a0_reader, .ref a0_refusals, .ref a0_bestPack])), (a0_now, .inr (0, [.ref a0_now_counts, .ref a0_now_roads, .ref a0_now_bridges, .ref a0_now_waggons, .ref a0_now_parts, .ref a0_now_settings, .ref a0_now_trip, .int 0])), (a0_now_counts, .inl (E 0, 4, .inl (fun _ => 0)))]) [0, 1, 2] rfl) hG hS (va_recv hK hP (ci := 6) (q0 := 0) rfl rfl) rfl hl.1 rfl (Nat.le_of_ble_eq_true rfl) dX6_strain_3 ⟨Nat.le_of_ble_eq_true rfl, Nat.le_of_ble_eq_true rfl⟩ ?_
  refine lv_if_eq (tgt := 17) hx hb dX6_strain_6 (by decide) (fun _ => ?_) (fun c => absurd (show (0 : Int32) = 0 from by decide) c)
  refine lv_aload_n hx hb dX6_strain_17 rfl (lv_at hl 0 rfl) ?_
  refine lv_bipush (v := (-2)) hx hb dX6_strain_18 (by decide) ?_
  refine oh_mV (As := [.int (-2)]) (rest := []) (wr := [(a0_now, .inr (0, [.ref a0_now_counts, .ref a0_now_roads, .ref a0_now_bridges, .ref a0_now_waggons, .ref a0_now_parts, .ref a0_now_settings, .ref a0_now_trip, .int 0])), (a0_now_counts, .inl (E 0, 4, .inl (fun _ => 0)))]) ⟨hx, hb, hml, hown, htg⟩ (c_X6_refuse l D E G s.heap.size a0 (-2) a0_now a0_kept a0_ways a0_shelves a0_tape a0_reader a0_refusals a0_bestPack) (cwV 1 htg (oh_gV q_296 q_298 q_0 q_66 q_299) rfl rfl rfl pdVX6_refuse ⟨Nat.le_of_ble_eq_true rfl, Nat.le_of_ble_eq_true rfl⟩) hK hP hD hG hS hA [0, 3] [1, 2] rfl rfl (by decide) (by decide) (by decide) (va_recv hK hP (ci := 6) (q0 := 0) rfl rfl) rfl hl.1 rfl (Nat.le_of_ble_eq_true rfl) dX6_strain_20 ⟨Nat.le_of_ble_eq_true rfl, Nat.le_of_ble_eq_true rfl⟩ (fun r_1 u H locs hw hP hD hS => ?_)
  subst hw
  have hP : va_P D vwCl [(a0_now, .inr (0, [.ref a0_now_counts, .ref a0_now_roads, .ref a0_now_bridges, .ref a0_now_waggons, .ref a0_now_parts, .ref a0_now_settings, .ref a0_now_trip, .int 0])), (a0_now_counts, .inl (E 0, 4, .inl (fun _ => 0))), (a0, .inr (6, [.ref a0_now, .ref a0_kept, .int 0, .ref a0_ways, .ref a0_shelves, .ref a0_tape, .ref a0_reader, .ref a0_refusals, .ref a0_bestPack]))] H := hP
  have hD : va_D A [(a0_now, .inr (0, [.ref a0_now_counts, .ref a0_now_roads, .ref a0_now_bridges, .ref a0_now_waggons, .ref a0_now_parts, .ref a0_now_settings, .ref a0_now_trip, .int 0])), (a0_now_counts, .inl (E 0, 4, .inl (fun _ => 0))), (a0, .inr (6, [.ref a0_now, .ref a0_kept, .int 0, .ref a0_ways, .ref a0_shelves, .ref a0_tape, .ref a0_reader, .ref a0_refusals, .ref a0_bestPack]))] := hD
  refine W.widen (k := 0) (n := 0) (Nat.le_refl _) (Nat.le_refl _) ?_
  refine W.widen (k := 0) (n := 0) (Nat.le_of_ble_eq_true rfl) (Nat.le_of_ble_eq_true rfl) ?_
  exact W.iret (v := (-2)) hx hb hr (fun t ht hW => ⟨⟨(-2), (), rfl, rfl, ⟨by rw [ht]; exact hP.sub [] rfl, hD.sub [] (by decide) rfl⟩⟩, hS.F ht⟩) hS.2.2 dX6_strain_23
set_option maxHeartbeats 4000000 in
set_option maxRecDepth 100000 in
theorem c_X6_needs (l : Launch) (D : va_G) (E : Nat → ClassId) (G : Nat → Nat) (sz : Nat) (a0 : Nat) (v_a : Int32) (v_b : Int32) (v_c : Int32) (a0_now : Nat) (a0_kept : Nat) (a0_ways : Nat) (a0_shelves : Nat) (a0_tape : Nat) (a0_reader : Nat) (a0_refusals : Nat) (a0_bestPack : Nat) (a0_now_counts : Nat) (a0_now_roads : Nat) (a0_now_bridges : Nat) (a0_now_waggons : Nat) (a0_now_parts : Nat) (a0_now_settings : Nat) (a0_now_trip : Nat) : Met l yX6_needs (oh_w yX6_needs cX6_needs 4 (some .int)) ({ frames := 3, cells := 0, slots := 0, locals := 65 }) (oh_Pm D E G [.ref a0, .int v_a, .int v_b, .int v_c] [(a0, .inr (6, [.ref a0_now, .ref a0_kept, .int 0, .ref a0_ways, .ref a0_shelves, .ref a0_tape, .ref a0_reader, .ref a0_refusals, .ref a0_bestPack])), (a0_now, .inr (0, [.ref a0_now_counts, .ref a0_now_roads, .ref a0_now_bridges, .ref a0_now_waggons, .ref a0_now_parts, .ref a0_now_settings, .ref a0_now_trip, .int 0])), (a0_now_counts, .inl (E 0, 4, .inl (fun _ => 0))), (a0_refusals, .inl (E 0, 5, .inl (fun _ => 0)))] sz) (va_Qi (fun r (_ : Unit) => r = (-2)) (oh_B D (va_A [(a0, .inr (6, [.ref a0_now, .ref a0_kept, .int 0, .ref a0_ways, .ref a0_shelves, .ref a0_tape, .ref a0_reader, .ref a0_refusals, .ref a0_bestPack])), (a0_now, .inr (0, [.ref a0_now_counts, .ref a0_now_roads, .ref a0_now_bridges, .ref a0_now_waggons, .ref a0_now_parts, .ref a0_now_settings, .ref a0_now_trip, .int 0])), (a0_now_counts, .inl (E 0, 4, .inl (fun _ => 0))), (a0_refusals, .inl (E 0, 5, .inl (fun _ => 0)))] sz) (fun _ => [])) (va_A [(a0, .inr (6, [.ref a0_now, .ref a0_kept, .int 0, .ref a0_ways, .ref a0_shelves, .ref a0_tape, .ref a0_reader, .ref a0_refusals, .ref a0_bestPack])), (a0_now, .inr (0, [.ref a0_now_counts, .ref a0_now_roads, .ref a0_now_bridges, .ref a0_now_waggons, .ref a0_now_parts, .ref a0_now_settings, .ref a0_now_trip, .int 0])), (a0_now_counts, .inl (E 0, 4, .inl (fun _ => 0))), (a0_refusals, .inl (E 0, 5, .inl (fun _ => 0)))] sz)) 0 0 (va_A [(a0, .inr (6, [.ref a0_now, .ref a0_kept, .int 0, .ref a0_ways, .ref a0_shelves, .ref a0_tape, .ref a0_reader, .ref a0_refusals, .ref a0_bestPack])), (a0_now, .inr (0, [.ref a0_now_counts, .ref a0_now_roads, .ref a0_now_bridges, .ref a0_now_waggons, .ref a0_now_parts, .ref a0_now_settings, .ref a0_now_trip, .int 0])), (a0_now_counts, .inl (E 0, 4, .inl (fun _ => 0))), (a0_refusals, .inl (E 0, 5, .inl (fun _ => 0)))] sz) := by
  refine Met.ofW (cc := cX6_needs) (maxL := 4) (ret := (some .int)) (by decide) rfl ?_
  intro p e s m args below meth c s₁ B hml hv
  obtain ⟨rfl, hsz, hP, hK, hD0, hG⟩ := hv
  have hx := B.exec
  have hb := B.bytes
  have hr := B.returns
  have hts := atoms_spec (ws := (oh_w yX6_needs cX6_needs 4 (some .int))) B.pre
  have htg : ∀ w ∈ oh_t, w.before _ s = true := fun w h => hts w (List.mem_cons_of_mem _ h)
  have hown : s.vm.findClass RX6 = some m.cls := findClass_of_methodNamed B.named
  have hlocks := B.notSynchronized
  subst hsz
  have hD := hD0.self (sz := s.heap.size)
  generalize hAe : va_A [(a0, .inr (6, [.ref a0_now, .ref a0_kept, .int 0, .ref a0_ways, .ref a0_shelves, .ref a0_tape, .ref a0_reader, .ref a0_refusals, .ref a0_bestPack])), (a0_now, .inr (0, [.ref a0_now_counts, .ref a0_now_roads, .ref a0_now_bridges, .ref a0_now_waggons, .ref a0_now_parts, .ref a0_now_settings, .ref a0_now_trip, .int 0])), (a0_now_counts, .inl (E 0, 4, .inl (fun _ => 0))), (a0_refusals, .inl (E 0, 5, .inl (fun _ => 0)))] s.heap.size = A at hD hG ⊢
  have hA : ∀ q : Nat, s.heap.size ≤ q → A q := fun q h => by rw [← hAe]; exact Or.inr h
  have hS : va_S A s.heap s.heap [] := va_S.rf
  have hP : va_P D vwCl [(a0, .inr (6, [.ref a0_now, .ref a0_kept, .int 0, .ref a0_ways, .ref a0_shelves, .ref a0_tape, .ref a0_reader, .ref a0_refusals, .ref a0_bestPack])), (a0_now, .inr (0, [.ref a0_now_counts, .ref a0_now_roads, .ref a0_now_bridges, .ref a0_now_waggons, .ref a0_now_parts, .ref a0_now_settings, .ref a0_now_trip, .int 0])), (a0_now_counts, .inl (E 0, 4, .inl (fun _ => 0))), (a0_refusals, .inl (E 0, 5, .inl (fun _ => 0)))] s.heap := hP
  have hl := lv_entry ([.ref a0, .int v_a, .int v_b, .int v_c]) (n := 4) (Nat.le_of_ble_eq_true rfl)
  rw [lg_entry_eq]
  generalize (lg_sl ([.ref a0, .int v_a, .int v_b, .int v_c]) ++ List.replicate (4 - (lg_sl ([.ref a0, .int v_a, .int v_b, .int v_c])).length) Slot.unset).toArray = ls at hl ⊢
  have hl : lv_has ls 4 [(0, .ref a0), (1, .int v_a), (2, .int v_b), (3, .int v_c)] := hl
  refine lv_aload_n hx hb dX6_needs_0 rfl (lv_at hl 0 rfl) ?_
  refine lv_iload_n hx hb dX6_needs_1 rfl (lv_at hl 1 rfl) ?_
  refine lv_iload_n hx hb dX6_needs_2 rfl (lv_at hl 2 rfl) ?_
  refine oh_pV (As := [.int v_a, .int v_b]) (rest := []) (v := 0) ⟨hx, hb, hml, hown, htg⟩ (c_X6_isPack l D E G a0 v_a v_b a0_now a0_kept a0_ways a0_shelves a0_tape a0_reader a0_refusals a0_bestPack a0_now_counts a0_now_roads a0_now_bridges a0_now_waggons a0_now_parts a0_now_settings a0_now_trip) (cwV 2 htg (oh_gV q_695 q_697 q_16 q_66 q_698) rfl rfl rfl pdVX6_isPack ⟨Nat.le_of_ble_eq_true rfl, Nat.le_of_ble_eq_true rfl⟩) hK (hP.sub (ws' := [(a0, .inr (6, [.ref a0_now, .ref a0_kept, .int 0, .ref a0_ways, .ref a0_shelves, .ref a0_tape, .ref a0_reader, .ref a0_refusals, .ref a0_bestPack])), (a0_now, .inr (0, [.ref a0_now_counts, .ref a0_now_roads, .ref a0_now_bridges, .ref a0_now_waggons, .ref a0_now_parts, .ref a0_now_settings, .ref a0_now_trip, .int 0])), (a0_now_counts, .inl (E 0, 4, .inl (fun _ => 0)))]) [0, 1, 2] rfl) hG hS (va_recv hK hP (ci := 6) (q0 := 0) rfl rfl) rfl hl.1 rfl (Nat.le_of_ble_eq_true rfl) dX6_needs_3 ⟨Nat.le_of_ble_eq_true rfl, Nat.le_of_ble_eq_true rfl⟩ ?_
  refine lv_if_eq (tgt := 17) hx hb dX6_needs_6 (by decide) (fun _ => ?_) (fun c => absurd (show (0 : Int32) = 0 from by decide) c)
  refine lv_aload_n hx hb dX6_needs_17 rfl (lv_at hl 0 rfl) ?_
  refine lv_bipush (v := (-2)) hx hb dX6_needs_18 (by decide) ?_
  refine oh_mV (As := [.int (-2)]) (rest := []) (wr := [(a0_now, .inr (0, [.ref a0_now_counts, .ref a0_now_roads, .ref a0_now_bridges, .ref a0_now_waggons, .ref a0_now_parts, .ref a0_now_settings, .ref a0_now_trip, .int 0])), (a0_now_counts, .inl (E 0, 4, .inl (fun _ => 0)))]) ⟨hx, hb, hml, hown, htg⟩ (c_X6_refuse l D E G s.heap.size a0 (-2) a0_now a0_kept a0_ways a0_shelves a0_tape a0_reader a0_refusals a0_bestPack) (cwV 1 htg (oh_gV q_296 q_298 q_0 q_66 q_299) rfl rfl rfl pdVX6_refuse ⟨Nat.le_of_ble_eq_true rfl, Nat.le_of_ble_eq_true rfl⟩) hK hP hD hG hS hA [0, 3] [1, 2] rfl rfl (by decide) (by decide) (by decide) (va_recv hK hP (ci := 6) (q0 := 0) rfl rfl) rfl hl.1 rfl (Nat.le_of_ble_eq_true rfl) dX6_needs_20 ⟨Nat.le_of_ble_eq_true rfl, Nat.le_of_ble_eq_true rfl⟩ (fun r_1 u H locs hw hP hD hS => ?_)
  subst hw
  have hP : va_P D vwCl [(a0_now, .inr (0, [.ref a0_now_counts, .ref a0_now_roads, .ref a0_now_bridges, .ref a0_now_waggons, .ref a0_now_parts, .ref a0_now_settings, .ref a0_now_trip, .int 0])), (a0_now_counts, .inl (E 0, 4, .inl (fun _ => 0))), (a0, .inr (6, [.ref a0_now, .ref a0_kept, .int 0, .ref a0_ways, .ref a0_shelves, .ref a0_tape, .ref a0_reader, .ref a0_refusals, .ref a0_bestPack]))] H := hP
  have hD : va_D A [(a0_now, .inr (0, [.ref a0_now_counts, .ref a0_now_roads, .ref a0_now_bridges, .ref a0_now_waggons, .ref a0_now_parts, .ref a0_now_settings, .ref a0_now_trip, .int 0])), (a0_now_counts, .inl (E 0, 4, .inl (fun _ => 0))), (a0, .inr (6, [.ref a0_now, .ref a0_kept, .int 0, .ref a0_ways, .ref a0_shelves, .ref a0_tape, .ref a0_reader, .ref a0_refusals, .ref a0_bestPack]))] := hD
  refine W.widen (k := 0) (n := 0) (Nat.le_refl _) (Nat.le_refl _) ?_
  refine W.widen (k := 0) (n := 0) (Nat.le_of_ble_eq_true rfl) (Nat.le_of_ble_eq_true rfl) ?_
  exact W.iret (v := (-2)) hx hb hr (fun t ht hW => ⟨⟨(-2), (), rfl, rfl, ⟨by rw [ht]; exact hP.sub [] rfl, hD.sub [] (by decide) rfl⟩⟩, hS.F ht⟩) hS.2.2 dX6_needs_23
set_option maxHeartbeats 4000000 in
set_option maxRecDepth 100000 in
theorem c_X6_goes (l : Launch) (D : va_G) (E : Nat → ClassId) (G : Nat → Nat) (sz : Nat) (a0 : Nat) (v_a : Int32) (v_b : Int32) (v_c : Int32) (v_d : Int32) (a0_now : Nat) (a0_kept : Nat) (a0_ways : Nat) (a0_shelves : Nat) (a0_tape : Nat) (a0_reader : Nat) (a0_refusals : Nat) (a0_bestPack : Nat) (a0_now_counts : Nat) (a0_now_roads : Nat) (a0_now_bridges : Nat) (a0_now_waggons : Nat) (a0_now_parts : Nat) (a0_now_settings : Nat) (a0_now_trip : Nat) : Met l yX6_goes (oh_w yX6_goes cX6_goes 5 (some .int)) ({ frames := 3, cells := 0, slots := 0, locals := 65 }) (oh_Pm D E G [.ref a0, .int v_a, .int v_b, .int v_c, .int v_d] [(a0, .inr (6, [.ref a0_now, .ref a0_kept, .int 0, .ref a0_ways, .ref a0_shelves, .ref a0_tape, .ref a0_reader, .ref a0_refusals, .ref a0_bestPack])), (a0_now, .inr (0, [.ref a0_now_counts, .ref a0_now_roads, .ref a0_now_bridges, .ref a0_now_waggons, .ref a0_now_parts, .ref a0_now_settings, .ref a0_now_trip, .int 0])), (a0_now_counts, .inl (E 0, 4, .inl (fun _ => 0))), (a0_refusals, .inl (E 0, 5, .inl (fun _ => 0)))] sz) (va_Qi (fun r (_ : Unit) => r = (-2)) (oh_B D (va_A [(a0, .inr (6, [.ref a0_now, .ref a0_kept, .int 0, .ref a0_ways, .ref a0_shelves, .ref a0_tape, .ref a0_reader, .ref a0_refusals, .ref a0_bestPack])), (a0_now, .inr (0, [.ref a0_now_counts, .ref a0_now_roads, .ref a0_now_bridges, .ref a0_now_waggons, .ref a0_now_parts, .ref a0_now_settings, .ref a0_now_trip, .int 0])), (a0_now_counts, .inl (E 0, 4, .inl (fun _ => 0))), (a0_refusals, .inl (E 0, 5, .inl (fun _ => 0)))] sz) (fun _ => [])) (va_A [(a0, .inr (6, [.ref a0_now, .ref a0_kept, .int 0, .ref a0_ways, .ref a0_shelves, .ref a0_tape, .ref a0_reader, .ref a0_refusals, .ref a0_bestPack])), (a0_now, .inr (0, [.ref a0_now_counts, .ref a0_now_roads, .ref a0_now_bridges, .ref a0_now_waggons, .ref a0_now_parts, .ref a0_now_settings, .ref a0_now_trip, .int 0])), (a0_now_counts, .inl (E 0, 4, .inl (fun _ => 0))), (a0_refusals, .inl (E 0, 5, .inl (fun _ => 0)))] sz)) 0 0 (va_A [(a0, .inr (6, [.ref a0_now, .ref a0_kept, .int 0, .ref a0_ways, .ref a0_shelves, .ref a0_tape, .ref a0_reader, .ref a0_refusals, .ref a0_bestPack])), (a0_now, .inr (0, [.ref a0_now_counts, .ref a0_now_roads, .ref a0_now_bridges, .ref a0_now_waggons, .ref a0_now_parts, .ref a0_now_settings, .ref a0_now_trip, .int 0])), (a0_now_counts, .inl (E 0, 4, .inl (fun _ => 0))), (a0_refusals, .inl (E 0, 5, .inl (fun _ => 0)))] sz) := by
  refine Met.ofW (cc := cX6_goes) (maxL := 5) (ret := (some .int)) (by decide) rfl ?_
  intro p e s m args below meth c s₁ B hml hv
  obtain ⟨rfl, hsz, hP, hK, hD0, hG⟩ := hv
  have hx := B.exec
  have hb := B.bytes
  have hr := B.returns
  have hts := atoms_spec (ws := (oh_w yX6_goes cX6_goes 5 (some .int))) B.pre
  have htg : ∀ w ∈ oh_t, w.before _ s = true := fun w h => hts w (List.mem_cons_of_mem _ h)
  have hown : s.vm.findClass RX6 = some m.cls := findClass_of_methodNamed B.named
  have hlocks := B.notSynchronized
  subst hsz
  have hD := hD0.self (sz := s.heap.size)
  generalize hAe : va_A [(a0, .inr (6, [.ref a0_now, .ref a0_kept, .int 0, .ref a0_ways, .ref a0_shelves, .ref a0_tape, .ref a0_reader, .ref a0_refusals, .ref a0_bestPack])), (a0_now, .inr (0, [.ref a0_now_counts, .ref a0_now_roads, .ref a0_now_bridges, .ref a0_now_waggons, .ref a0_now_parts, .ref a0_now_settings, .ref a0_now_trip, .int 0])), (a0_now_counts, .inl (E 0, 4, .inl (fun _ => 0))), (a0_refusals, .inl (E 0, 5, .inl (fun _ => 0)))] s.heap.size = A at hD hG ⊢
  have hA : ∀ q : Nat, s.heap.size ≤ q → A q := fun q h => by rw [← hAe]; exact Or.inr h
  have hS : va_S A s.heap s.heap [] := va_S.rf
  have hP : va_P D vwCl [(a0, .inr (6, [.ref a0_now, .ref a0_kept, .int 0, .ref a0_ways, .ref a0_shelves, .ref a0_tape, .ref a0_reader, .ref a0_refusals, .ref a0_bestPack])), (a0_now, .inr (0, [.ref a0_now_counts, .ref a0_now_roads, .ref a0_now_bridges, .ref a0_now_waggons, .ref a0_now_parts, .ref a0_now_settings, .ref a0_now_trip, .int 0])), (a0_now_counts, .inl (E 0, 4, .inl (fun _ => 0))), (a0_refusals, .inl (E 0, 5, .inl (fun _ => 0)))] s.heap := hP
  have hl := lv_entry ([.ref a0, .int v_a, .int v_b, .int v_c, .int v_d]) (n := 5) (Nat.le_of_ble_eq_true rfl)
  rw [lg_entry_eq]
  generalize (lg_sl ([.ref a0, .int v_a, .int v_b, .int v_c, .int v_d]) ++ List.replicate (5 - (lg_sl ([.ref a0, .int v_a, .int v_b, .int v_c, .int v_d])).length) Slot.unset).toArray = ls at hl ⊢
  have hl : lv_has ls 5 [(0, .ref a0), (1, .int v_a), (2, .int v_b), (3, .int v_c), (4, .int v_d)] := hl
  refine lv_aload_n hx hb dX6_goes_0 rfl (lv_at hl 0 rfl) ?_
  refine lv_iload_n hx hb dX6_goes_1 rfl (lv_at hl 1 rfl) ?_
  refine lv_iload_n hx hb dX6_goes_2 rfl (lv_at hl 2 rfl) ?_
  refine oh_pV (As := [.int v_a, .int v_b]) (rest := []) (v := 0) ⟨hx, hb, hml, hown, htg⟩ (c_X6_isPack l D E G a0 v_a v_b a0_now a0_kept a0_ways a0_shelves a0_tape a0_reader a0_refusals a0_bestPack a0_now_counts a0_now_roads a0_now_bridges a0_now_waggons a0_now_parts a0_now_settings a0_now_trip) (cwV 2 htg (oh_gV q_695 q_697 q_16 q_66 q_698) rfl rfl rfl pdVX6_isPack ⟨Nat.le_of_ble_eq_true rfl, Nat.le_of_ble_eq_true rfl⟩) hK (hP.sub (ws' := [(a0, .inr (6, [.ref a0_now, .ref a0_kept, .int 0, .ref a0_ways, .ref a0_shelves, .ref a0_tape, .ref a0_reader, .ref a0_refusals, .ref a0_bestPack])), (a0_now, .inr (0, [.ref a0_now_counts, .ref a0_now_roads, .ref a0_now_bridges, .ref a0_now_waggons, .ref a0_now_parts, .ref a0_now_settings, .ref a0_now_trip, .int 0])), (a0_now_counts, .inl (E 0, 4, .inl (fun _ => 0)))]) [0, 1, 2] rfl) hG hS (va_recv hK hP (ci := 6) (q0 := 0) rfl rfl) rfl hl.1 rfl (Nat.le_of_ble_eq_true rfl) dX6_goes_3 ⟨Nat.le_of_ble_eq_true rfl, Nat.le_of_ble_eq_true rfl⟩ ?_
  refine lv_if_eq (tgt := 27) hx hb dX6_goes_6 (by decide) (fun _ => ?_) (fun c => absurd (show (0 : Int32) = 0 from by decide) c)
  refine lv_aload_n hx hb dX6_goes_27 rfl (lv_at hl 0 rfl) ?_
  refine lv_bipush (v := (-2)) hx hb dX6_goes_28 (by decide) ?_
  refine oh_mV (As := [.int (-2)]) (rest := []) (wr := [(a0_now, .inr (0, [.ref a0_now_counts, .ref a0_now_roads, .ref a0_now_bridges, .ref a0_now_waggons, .ref a0_now_parts, .ref a0_now_settings, .ref a0_now_trip, .int 0])), (a0_now_counts, .inl (E 0, 4, .inl (fun _ => 0)))]) ⟨hx, hb, hml, hown, htg⟩ (c_X6_refuse l D E G s.heap.size a0 (-2) a0_now a0_kept a0_ways a0_shelves a0_tape a0_reader a0_refusals a0_bestPack) (cwV 1 htg (oh_gV q_296 q_298 q_0 q_66 q_299) rfl rfl rfl pdVX6_refuse ⟨Nat.le_of_ble_eq_true rfl, Nat.le_of_ble_eq_true rfl⟩) hK hP hD hG hS hA [0, 3] [1, 2] rfl rfl (by decide) (by decide) (by decide) (va_recv hK hP (ci := 6) (q0 := 0) rfl rfl) rfl hl.1 rfl (Nat.le_of_ble_eq_true rfl) dX6_goes_30 ⟨Nat.le_of_ble_eq_true rfl, Nat.le_of_ble_eq_true rfl⟩ (fun r_1 u H locs hw hP hD hS => ?_)
  subst hw
  have hP : va_P D vwCl [(a0_now, .inr (0, [.ref a0_now_counts, .ref a0_now_roads, .ref a0_now_bridges, .ref a0_now_waggons, .ref a0_now_parts, .ref a0_now_settings, .ref a0_now_trip, .int 0])), (a0_now_counts, .inl (E 0, 4, .inl (fun _ => 0))), (a0, .inr (6, [.ref a0_now, .ref a0_kept, .int 0, .ref a0_ways, .ref a0_shelves, .ref a0_tape, .ref a0_reader, .ref a0_refusals, .ref a0_bestPack]))] H := hP
  have hD : va_D A [(a0_now, .inr (0, [.ref a0_now_counts, .ref a0_now_roads, .ref a0_now_bridges, .ref a0_now_waggons, .ref a0_now_parts, .ref a0_now_settings, .ref a0_now_trip, .int 0])), (a0_now_counts, .inl (E 0, 4, .inl (fun _ => 0))), (a0, .inr (6, [.ref a0_now, .ref a0_kept, .int 0, .ref a0_ways, .ref a0_shelves, .ref a0_tape, .ref a0_reader, .ref a0_refusals, .ref a0_bestPack]))] := hD
  refine W.widen (k := 0) (n := 0) (Nat.le_refl _) (Nat.le_refl _) ?_
  refine W.widen (k := 0) (n := 0) (Nat.le_of_ble_eq_true rfl) (Nat.le_of_ble_eq_true rfl) ?_
  exact W.iret (v := (-2)) hx hb hr (fun t ht hW => ⟨⟨(-2), (), rfl, rfl, ⟨by rw [ht]; exact hP.sub [] rfl, hD.sub [] (by decide) rfl⟩⟩, hS.F ht⟩) hS.2.2 dX6_goes_33
end
section
set_option maxHeartbeats 4000000 in
set_option maxRecDepth 100000 in
theorem c_X6_cheapest (l : Launch) (D : va_G) (E : Nat → ClassId) (G : Nat → Nat) (sz : Nat) (a0 : Nat) (v_a : Int32) (v_b : Int32) (v_c : Int32) (v_d : Int32) (a0_now : Nat) (a0_kept : Nat) (a0_ways : Nat) (a0_shelves : Nat) (a0_tape : Nat) (a0_reader : Nat) (a0_refusals : Nat) (a0_bestPack : Nat) (a0_now_counts : Nat) (a0_now_roads : Nat) (a0_now_bridges : Nat) (a0_now_waggons : Nat) (a0_now_parts : Nat) (a0_now_settings : Nat) (a0_now_trip : Nat) : Met l yX6_cheapest (oh_w yX6_cheapest cX6_cheapest 5 (some .int)) ({ frames := 4, cells := 0, slots := 0, locals := 89 }) (oh_Pm D E G [.ref a0, .int v_a, .int v_b, .int v_c, .int v_d] [(a0, .inr (6, [.ref a0_now, .ref a0_kept, .int 0, .ref a0_ways, .ref a0_shelves, .ref a0_tape, .ref a0_reader, .ref a0_refusals, .ref a0_bestPack])), (a0_now, .inr (0, [.ref a0_now_counts, .ref a0_now_roads, .ref a0_now_bridges, .ref a0_now_waggons, .ref a0_now_parts, .ref a0_now_settings, .ref a0_now_trip, .int 0])), (a0_now_counts, .inl (E 0, 4, .inl (fun _ => 0))), (a0_refusals, .inl (E 0, 5, .inl (fun _ => 0)))] sz) (va_Qi (fun r (_ : Unit) => r = (-2)) (oh_B D (va_A [(a0, .inr (6, [.ref a0_now, .ref a0_kept, .int 0, .ref a0_ways, .ref a0_shelves, .ref a0_tape, .ref a0_reader, .ref a0_refusals, .ref a0_bestPack])), (a0_now, .inr (0, [.ref a0_now_counts, .ref a0_now_roads, .ref a0_now_bridges, .ref a0_now_waggons, .ref a0_now_parts, .ref a0_now_settings, .ref a0_now_trip, .int 0])), (a0_now_counts, .inl (E 0, 4, .inl (fun _ => 0))), (a0_refusals, .inl (E 0, 5, .inl (fun _ => 0)))] sz) (fun _ => [])) (va_A [(a0, .inr (6, [.ref a0_now, .ref a0_kept, .int 0, .ref a0_ways, .ref a0_shelves, .ref a0_tape, .ref a0_reader, .ref a0_refusals, .ref a0_bestPack])), (a0_now, .inr (0, [.ref a0_now_counts, .ref a0_now_roads, .ref a0_now_bridges, .ref a0_now_waggons, .ref a0_now_parts, .ref a0_now_settings, .ref a0_now_trip, .int 0])), (a0_now_counts, .inl (E 0, 4, .inl (fun _ => 0))), (a0_refusals, .inl (E 0, 5, .inl (fun _ => 0)))] sz)) 0 0 (va_A [(a0, .inr (6, [.ref a0_now, .ref a0_kept, .int 0, .ref a0_ways, .ref a0_shelves, .ref a0_tape, .ref a0_reader, .ref a0_refusals, .ref a0_bestPack])), (a0_now, .inr (0, [.ref a0_now_counts, .ref a0_now_roads, .ref a0_now_bridges, .ref a0_now_waggons, .ref a0_now_parts, .ref a0_now_settings, .ref a0_now_trip, .int 0])), (a0_now_counts, .inl (E 0, 4, .inl (fun _ => 0))), (a0_refusals, .inl (E 0, 5, .inl (fun _ => 0)))] sz) := by
  refine Met.ofW (cc := cX6_cheapest) (maxL := 5) (ret := (some .int)) (by decide) rfl ?_
  intro p e s m args below meth c s₁ B hml hv
  obtain ⟨rfl, hsz, hP, hK, hD0, hG⟩ := hv
  have hx := B.exec
  have hb := B.bytes
  have hr := B.returns
  have hts := atoms_spec (ws := (oh_w yX6_cheapest cX6_cheapest 5 (some .int))) B.pre
  have htg : ∀ w ∈ oh_t, w.before _ s = true := fun w h => hts w (List.mem_cons_of_mem _ h)
  have hown : s.vm.findClass RX6 = some m.cls := findClass_of_methodNamed B.named
  have hlocks := B.notSynchronized
  subst hsz
  have hD := hD0.self (sz := s.heap.size)
  generalize hAe : va_A [(a0, .inr (6, [.ref a0_now, .ref a0_kept, .int 0, .ref a0_ways, .ref a0_shelves, .ref a0_tape, .ref a0_reader, .ref a0_refusals, .ref a0_bestPack])), (a0_now, .inr (0, [.ref a0_now_counts, .ref a0_now_roads, .ref a0_now_bridges, .ref a0_now_waggons, .ref a0_now_parts, .ref a0_now_settings, .ref a0_now_trip, .int 0])), (a0_now_counts, .inl (E 0, 4, .inl (fun _ => 0))), (a0_refusals, .inl (E 0, 5, .inl (fun _ => 0)))] s.heap.size = A at hD hG ⊢
  have hA : ∀ q : Nat, s.heap.size ≤ q → A q := fun q h => by rw [← hAe]; exact Or.inr h
  have hS : va_S A s.heap s.heap [] := va_S.rf
  have hP : va_P D vwCl [(a0, .inr (6, [.ref a0_now, .ref a0_kept, .int 0, .ref a0_ways, .ref a0_shelves, .ref a0_tape, .ref a0_reader, .ref a0_refusals, .ref a0_bestPack])), (a0_now, .inr (0, [.ref a0_now_counts, .ref a0_now_roads, .ref a0_now_bridges, .ref a0_now_waggons, .ref a0_now_parts, .ref a0_now_settings, .ref a0_now_trip, .int 0])), (a0_now_counts, .inl (E 0, 4, .inl (fun _ => 0))), (a0_refusals, .inl (E 0, 5, .inl (fun _ => 0)))] s.heap := hP
  have hl := lv_entry ([.ref a0, .int v_a, .int v_b, .int v_c, .int v_d]) (n := 5) (Nat.le_of_ble_eq_true rfl)
  rw [lg_entry_eq]
  generalize (lg_sl ([.ref a0, .int v_a, .int v_b, .int v_c, .int v_d]) ++ List.replicate (5 - (lg_sl ([.ref a0, .int v_a, .int v_b, .int v_c, .int v_d])).length) Slot.unset).toArray = ls at hl ⊢
  have hl : lv_has ls 5 [(0, .ref a0), (1, .int v_a), (2, .int v_b), (3, .int v_c), (4, .int v_d)] := hl
  refine lv_aload_n hx hb dX6_cheapest_0 rfl (lv_at hl 0 rfl) ?_
  refine lv_iload_n hx hb dX6_cheapest_1 rfl (lv_at hl 1 rfl) ?_
  refine lv_iload_n hx hb dX6_cheapest_2 rfl (lv_at hl 2 rfl) ?_
  refine lv_iload_n hx hb dX6_cheapest_3 rfl (lv_at hl 3 rfl) ?_
  refine lv_iload hx hb dX6_cheapest_4 (lv_at hl 4 rfl) ?_
  refine oh_pV (As := [.int v_a, .int v_b, .int v_c, .int v_d]) (rest := []) (v := 0) ⟨hx, hb, hml, hown, htg⟩ (c_X6_isJourney l D E G a0 v_a v_b v_c v_d a0_now a0_kept a0_ways a0_shelves a0_tape a0_reader a0_refusals a0_bestPack a0_now_counts a0_now_roads a0_now_bridges a0_now_waggons a0_now_parts a0_now_settings a0_now_trip) (cwV 4 htg (oh_gV q_776 q_778 q_17 q_66 q_779) rfl rfl rfl pdVX6_isJourney ⟨Nat.le_of_ble_eq_true rfl, Nat.le_of_ble_eq_true rfl⟩) hK (hP.sub (ws' := [(a0, .inr (6, [.ref a0_now, .ref a0_kept, .int 0, .ref a0_ways, .ref a0_shelves, .ref a0_tape, .ref a0_reader, .ref a0_refusals, .ref a0_bestPack])), (a0_now, .inr (0, [.ref a0_now_counts, .ref a0_now_roads, .ref a0_now_bridges, .ref a0_now_waggons, .ref a0_now_parts, .ref a0_now_settings, .ref a0_now_trip, .int 0])), (a0_now_counts, .inl (E 0, 4, .inl (fun _ => 0)))]) [0, 1, 2] rfl) hG hS (va_recv hK hP (ci := 6) (q0 := 0) rfl rfl) rfl hl.1 rfl (Nat.le_of_ble_eq_true rfl) dX6_cheapest_6 ⟨Nat.le_of_ble_eq_true rfl, Nat.le_of_ble_eq_true rfl⟩ ?_
  refine lv_if_ne (tgt := 19) hx hb dX6_cheapest_9 (by decide) (fun c => absurd (show (0 : Int32) = 0 from by decide) c) (fun _ => ?_)
  refine lv_aload_n hx hb dX6_cheapest_12 rfl (lv_at hl 0 rfl) ?_
  refine lv_bipush (v := (-2)) hx hb dX6_cheapest_13 (by decide) ?_
  refine oh_mV (As := [.int (-2)]) (rest := []) (wr := [(a0_now, .inr (0, [.ref a0_now_counts, .ref a0_now_roads, .ref a0_now_bridges, .ref a0_now_waggons, .ref a0_now_parts, .ref a0_now_settings, .ref a0_now_trip, .int 0])), (a0_now_counts, .inl (E 0, 4, .inl (fun _ => 0)))]) ⟨hx, hb, hml, hown, htg⟩ (c_X6_refuse l D E G s.heap.size a0 (-2) a0_now a0_kept a0_ways a0_shelves a0_tape a0_reader a0_refusals a0_bestPack) (cwV 1 htg (oh_gV q_296 q_298 q_0 q_66 q_299) rfl rfl rfl pdVX6_refuse ⟨Nat.le_of_ble_eq_true rfl, Nat.le_of_ble_eq_true rfl⟩) hK hP hD hG hS hA [0, 3] [1, 2] rfl rfl (by decide) (by decide) (by decide) (va_recv hK hP (ci := 6) (q0 := 0) rfl rfl) rfl hl.1 rfl (Nat.le_of_ble_eq_true rfl) dX6_cheapest_15 ⟨Nat.le_of_ble_eq_true rfl, Nat.le_of_ble_eq_true rfl⟩ (fun r_1 u H locs hw hP hD hS => ?_)
  subst hw
  have hP : va_P D vwCl [(a0_now, .inr (0, [.ref a0_now_counts, .ref a0_now_roads, .ref a0_now_bridges, .ref a0_now_waggons, .ref a0_now_parts, .ref a0_now_settings, .ref a0_now_trip, .int 0])), (a0_now_counts, .inl (E 0, 4, .inl (fun _ => 0))), (a0, .inr (6, [.ref a0_now, .ref a0_kept, .int 0, .ref a0_ways, .ref a0_shelves, .ref a0_tape, .ref a0_reader, .ref a0_refusals, .ref a0_bestPack]))] H := hP
  have hD : va_D A [(a0_now, .inr (0, [.ref a0_now_counts, .ref a0_now_roads, .ref a0_now_bridges, .ref a0_now_waggons, .ref a0_now_parts, .ref a0_now_settings, .ref a0_now_trip, .int 0])), (a0_now_counts, .inl (E 0, 4, .inl (fun _ => 0))), (a0, .inr (6, [.ref a0_now, .ref a0_kept, .int 0, .ref a0_ways, .ref a0_shelves, .ref a0_tape, .ref a0_reader, .ref a0_refusals, .ref a0_bestPack]))] := hD
  refine W.widen (k := 0) (n := 0) (Nat.le_refl _) (Nat.le_refl _) ?_
  refine W.widen (k := 0) (n := 0) (Nat.le_of_ble_eq_true rfl) (Nat.le_of_ble_eq_true rfl) ?_
  exact W.iret (v := (-2)) hx hb hr (fun t ht hW => ⟨⟨(-2), (), rfl, rfl, ⟨by rw [ht]; exact hP.sub [] rfl, hD.sub [] (by decide) rfl⟩⟩, hS.F ht⟩) hS.2.2 dX6_cheapest_18
set_option maxHeartbeats 4000000 in
set_option maxRecDepth 100000 in
theorem c_X6_soonest (l : Launch) (D : va_G) (E : Nat → ClassId) (G : Nat → Nat) (sz : Nat) (a0 : Nat) (v_a : Int32) (v_b : Int32) (v_c : Int32) (v_d : Int32) (a0_now : Nat) (a0_kept : Nat) (a0_ways : Nat) (a0_shelves : Nat) (a0_tape : Nat) (a0_reader : Nat) (a0_refusals : Nat) (a0_bestPack : Nat) (a0_now_counts : Nat) (a0_now_roads : Nat) (a0_now_bridges : Nat) (a0_now_waggons : Nat) (a0_now_parts : Nat) (a0_now_settings : Nat) (a0_now_trip : Nat) : Met l yX6_soonest (oh_w yX6_soonest cX6_soonest 5 (some .int)) ({ frames := 4, cells := 0, slots := 0, locals := 89 }) (oh_Pm D E G [.ref a0, .int v_a, .int v_b, .int v_c, .int v_d] [(a0, .inr (6, [.ref a0_now, .ref a0_kept, .int 0, .ref a0_ways, .ref a0_shelves, .ref a0_tape, .ref a0_reader, .ref a0_refusals, .ref a0_bestPack])), (a0_now, .inr (0, [.ref a0_now_counts, .ref a0_now_roads, .ref a0_now_bridges, .ref a0_now_waggons, .ref a0_now_parts, .ref a0_now_settings, .ref a0_now_trip, .int 0])), (a0_now_counts, .inl (E 0, 4, .inl (fun _ => 0))), (a0_refusals, .inl (E 0, 5, .inl (fun _ => 0)))] sz) (va_Qi (fun r (_ : Unit) => r = (-2)) (oh_B D (va_A [(a0, .inr (6, [.ref a0_now, .ref a0_kept, .int 0, .ref a0_ways, .ref a0_shelves, .ref a0_tape, .ref a0_reader, .ref a0_refusals, .ref a0_bestPack])), (a0_now, .inr (0, [.ref a0_now_counts, .ref a0_now_roads, .ref a0_now_bridges, .ref a0_now_waggons, .ref a0_now_parts, .ref a0_now_settings, .ref a0_now_trip, .int 0])), (a0_now_counts, .inl (E 0, 4, .inl (fun _ => 0))), (a0_refusals, .inl (E 0, 5, .inl (fun _ => 0)))] sz) (fun _ => [])) (va_A [(a0, .inr (6, [.ref a0_now, .ref a0_kept, .int 0, .ref a0_ways, .ref a0_shelves, .ref a0_tape, .ref a0_reader, .ref a0_refusals, .ref a0_bestPack])), (a0_now, .inr (0, [.ref a0_now_counts, .ref a0_now_roads, .ref a0_now_bridges, .ref a0_now_waggons, .ref a0_now_parts, .ref a0_now_settings, .ref a0_now_trip, .int 0])), (a0_now_counts, .inl (E 0, 4, .inl (fun _ => 0))), (a0_refusals, .inl (E 0, 5, .inl (fun _ => 0)))] sz)) 0 0 (va_A [(a0, .inr (6, [.ref a0_now, .ref a0_kept, .int 0, .ref a0_ways, .ref a0_shelves, .ref a0_tape, .ref a0_reader, .ref a0_refusals, .ref a0_bestPack])), (a0_now, .inr (0, [.ref a0_now_counts, .ref a0_now_roads, .ref a0_now_bridges, .ref a0_now_waggons, .ref a0_now_parts, .ref a0_now_settings, .ref a0_now_trip, .int 0])), (a0_now_counts, .inl (E 0, 4, .inl (fun _ => 0))), (a0_refusals, .inl (E 0, 5, .inl (fun _ => 0)))] sz) := by
  refine Met.ofW (cc := cX6_soonest) (maxL := 5) (ret := (some .int)) (by decide) rfl ?_
  intro p e s m args below meth c s₁ B hml hv
  obtain ⟨rfl, hsz, hP, hK, hD0, hG⟩ := hv
  have hx := B.exec
  have hb := B.bytes
  have hr := B.returns
  have hts := atoms_spec (ws := (oh_w yX6_soonest cX6_soonest 5 (some .int))) B.pre
  have htg : ∀ w ∈ oh_t, w.before _ s = true := fun w h => hts w (List.mem_cons_of_mem _ h)
  have hown : s.vm.findClass RX6 = some m.cls := findClass_of_methodNamed B.named
  have hlocks := B.notSynchronized
  subst hsz
  have hD := hD0.self (sz := s.heap.size)
  generalize hAe : va_A [(a0, .inr (6, [.ref a0_now, .ref a0_kept, .int 0, .ref a0_ways, .ref a0_shelves, .ref a0_tape, .ref a0_reader, .ref a0_refusals, .ref a0_bestPack])), (a0_now, .inr (0, [.ref a0_now_counts, .ref a0_now_roads, .ref a0_now_bridges, .ref a0_now_waggons, .ref a0_now_parts, .ref a0_now_settings, .ref a0_now_trip, .int 0])), (a0_now_counts, .inl (E 0, 4, .inl (fun _ => 0))), (a0_refusals, .inl (E 0, 5, .inl (fun _ => 0)))] s.heap.size = A at hD hG ⊢
  have hA : ∀ q : Nat, s.heap.size ≤ q → A q := fun q h => by rw [← hAe]; exact Or.inr h
  have hS : va_S A s.heap s.heap [] := va_S.rf
  have hP : va_P D vwCl [(a0, .inr (6, [.ref a0_now, .ref a0_kept, .int 0, .ref a0_ways, .ref a0_shelves, .ref a0_tape, .ref a0_reader, .ref a0_refusals, .ref a0_bestPack])), (a0_now, .inr (0, [.ref a0_now_counts, .ref a0_now_roads, .ref a0_now_bridges, .ref a0_now_waggons, .ref a0_now_parts, .ref a0_now_settings, .ref a0_now_trip, .int 0])), (a0_now_counts, .inl (E 0, 4, .inl (fun _ => 0))), (a0_refusals, .inl (E 0, 5, .inl (fun _ => 0)))] s.heap := hP
  have hl := lv_entry ([.ref a0, .int v_a, .int v_b, .int v_c, .int v_d]) (n := 5) (Nat.le_of_ble_eq_true rfl)
  rw [lg_entry_eq]
  generalize (lg_sl ([.ref a0, .int v_a, .int v_b, .int v_c, .int v_d]) ++ List.replicate (5 - (lg_sl ([.ref a0, .int v_a, .int v_b, .int v_c, .int v_d])).length) Slot.unset).toArray = ls at hl ⊢
  have hl : lv_has ls 5 [(0, .ref a0), (1, .int v_a), (2, .int v_b), (3, .int v_c), (4, .int v_d)] := hl
  refine lv_aload_n hx hb dX6_soonest_0 rfl (lv_at hl 0 rfl) ?_
  refine lv_iload_n hx hb dX6_soonest_1 rfl (lv_at hl 1 rfl) ?_
  refine lv_iload_n hx hb dX6_soonest_2 rfl (lv_at hl 2 rfl) ?_
  refine lv_iload_n hx hb dX6_soonest_3 rfl (lv_at hl 3 rfl) ?_
  refine lv_iload hx hb dX6_soonest_4 (lv_at hl 4 rfl) ?_
  refine oh_pV (As := [.int v_a, .int v_b, .int v_c, .int v_d]) (rest := []) (v := 0) ⟨hx, hb, hml, hown, htg⟩ (c_X6_isJourney l D E G a0 v_a v_b v_c v_d a0_now a0_kept a0_ways a0_shelves a0_tape a0_reader a0_refusals a0_bestPack a0_now_counts a0_now_roads a0_now_bridges a0_now_waggons a0_now_parts a0_now_settings a0_now_trip) (cwV 4 htg (oh_gV q_776 q_778 q_17 q_66 q_779) rfl rfl rfl pdVX6_isJourney ⟨Nat.le_of_ble_eq_true rfl, Nat.le_of_ble_eq_true rfl⟩) hK (hP.sub (ws' := [(a0, .inr (6, [.ref a0_now, .ref a0_kept, .int 0, .ref a0_ways, .ref a0_shelves, .ref a0_tape, .ref a0_reader, .ref a0_refusals, .ref a0_bestPack])), (a0_now, .inr (0, [.ref a0_now_counts, .ref a0_now_roads, .ref a0_now_bridges, .ref a0_now_waggons, .ref a0_now_parts, .ref a0_now_settings, .ref a0_now_trip, .int 0])), (a0_now_counts, .inl (E 0, 4, .inl (fun _ => 0)))]) [0, 1, 2] rfl) hG hS (va_recv hK hP (ci := 6) (q0 := 0) rfl rfl) rfl hl.1 rfl (Nat.le_of_ble_eq_true rfl) dX6_soonest_6 ⟨Nat.le_of_ble_eq_true rfl, Nat.le_of_ble_eq_true rfl⟩ ?_
  refine lv_if_ne (tgt := 19) hx hb dX6_soonest_9 (by decide) (fun c => absurd (show (0 : Int32) = 0 from by decide) c) (fun _ => ?_)
  refine lv_aload_n hx hb dX6_soonest_12 rfl (lv_at hl 0 rfl) ?_
  refine lv_bipush (v := (-2)) hx hb dX6_soonest_13 (by decide) ?_
  refine oh_mV (As := [.int (-2)]) (rest := []) (wr := [(a0_now, .inr (0, [.ref a0_now_counts, .ref a0_now_roads, .ref a0_now_bridges, .ref a0_now_waggons, .ref a0_now_parts, .ref a0_now_settings, .ref a0_now_trip, .int 0])), (a0_now_counts, .inl (E 0, 4, .inl (fun _ => 0)))]) ⟨hx, hb, hml, hown, htg⟩ (c_X6_refuse l D E G s.heap.size a0 (-2) a0_now a0_kept a0_ways a0_shelves a0_tape a0_reader a0_refusals a0_bestPack) (cwV 1 htg (oh_gV q_296 q_298 q_0 q_66 q_299) rfl rfl rfl pdVX6_refuse ⟨Nat.le_of_ble_eq_true rfl, Nat.le_of_ble_eq_true rfl⟩) hK hP hD hG hS hA [0, 3] [1, 2] rfl rfl (by decide) (by decide) (by decide) (va_recv hK hP (ci := 6) (q0 := 0) rfl rfl) rfl hl.1 rfl (Nat.le_of_ble_eq_true rfl) dX6_soonest_15 ⟨Nat.le_of_ble_eq_true rfl, Nat.le_of_ble_eq_true rfl⟩ (fun r_1 u H locs hw hP hD hS => ?_)
  subst hw
  have hP : va_P D vwCl [(a0_now, .inr (0, [.ref a0_now_counts, .ref a0_now_roads, .ref a0_now_bridges, .ref a0_now_waggons, .ref a0_now_parts, .ref a0_now_settings, .ref a0_now_trip, .int 0])), (a0_now_counts, .inl (E 0, 4, .inl (fun _ => 0))), (a0, .inr (6, [.ref a0_now, .ref a0_kept, .int 0, .ref a0_ways, .ref a0_shelves, .ref a0_tape, .ref a0_reader, .ref a0_refusals, .ref a0_bestPack]))] H := hP
  have hD : va_D A [(a0_now, .inr (0, [.ref a0_now_counts, .ref a0_now_roads, .ref a0_now_bridges, .ref a0_now_waggons, .ref a0_now_parts, .ref a0_now_settings, .ref a0_now_trip, .int 0])), (a0_now_counts, .inl (E 0, 4, .inl (fun _ => 0))), (a0, .inr (6, [.ref a0_now, .ref a0_kept, .int 0, .ref a0_ways, .ref a0_shelves, .ref a0_tape, .ref a0_reader, .ref a0_refusals, .ref a0_bestPack]))] := hD
  refine W.widen (k := 0) (n := 0) (Nat.le_refl _) (Nat.le_refl _) ?_
  refine W.widen (k := 0) (n := 0) (Nat.le_of_ble_eq_true rfl) (Nat.le_of_ble_eq_true rfl) ?_
  exact W.iret (v := (-2)) hx hb hr (fun t ht hW => ⟨⟨(-2), (), rfl, rfl, ⟨by rw [ht]; exact hP.sub [] rfl, hD.sub [] (by decide) rfl⟩⟩, hS.F ht⟩) hS.2.2 dX6_soonest_18
set_option maxHeartbeats 4000000 in
set_option maxRecDepth 100000 in
theorem c_X6_again (l : Launch) (D : va_G) (E : Nat → ClassId) (G : Nat → Nat) (sz : Nat) (a0 : Nat) (v_a : Int32) (v_b : Int32) (v_c : Int32) (v_d : Int32) (v_e : Int32) (a0_now : Nat) (a0_kept : Nat) (a0_ways : Nat) (a0_shelves : Nat) (a0_tape : Nat) (a0_reader : Nat) (a0_refusals : Nat) (a0_bestPack : Nat) (a0_now_counts : Nat) (a0_now_roads : Nat) (a0_now_bridges : Nat) (a0_now_waggons : Nat) (a0_now_parts : Nat) (a0_now_settings : Nat) (a0_now_trip : Nat) : Met l yX6_again (oh_w yX6_again cX6_again 6 (some .int)) ({ frames := 4, cells := 0, slots := 0, locals := 89 }) (oh_Pm D E G [.ref a0, .int v_a, .int v_b, .int v_c, .int v_d, .int v_e] [(a0, .inr (6, [.ref a0_now, .ref a0_kept, .int 0, .ref a0_ways, .ref a0_shelves, .ref a0_tape, .ref a0_reader, .ref a0_refusals, .ref a0_bestPack])), (a0_now, .inr (0, [.ref a0_now_counts, .ref a0_now_roads, .ref a0_now_bridges, .ref a0_now_waggons, .ref a0_now_parts, .ref a0_now_settings, .ref a0_now_trip, .int 0])), (a0_now_counts, .inl (E 0, 4, .inl (fun _ => 0))), (a0_refusals, .inl (E 0, 5, .inl (fun _ => 0)))] sz) (va_Qi (fun r (_ : Unit) => r = (-2)) (oh_B D (va_A [(a0, .inr (6, [.ref a0_now, .ref a0_kept, .int 0, .ref a0_ways, .ref a0_shelves, .ref a0_tape, .ref a0_reader, .ref a0_refusals, .ref a0_bestPack])), (a0_now, .inr (0, [.ref a0_now_counts, .ref a0_now_roads, .ref a0_now_bridges, .ref a0_now_waggons, .ref a0_now_parts, .ref a0_now_settings, .ref a0_now_trip, .int 0])), (a0_now_counts, .inl (E 0, 4, .inl (fun _ => 0))), (a0_refusals, .inl (E 0, 5, .inl (fun _ => 0)))] sz) (fun _ => [])) (va_A [(a0, .inr (6, [.ref a0_now, .ref a0_kept, .int 0, .ref a0_ways, .ref a0_shelves, .ref a0_tape, .ref a0_reader, .ref a0_refusals, .ref a0_bestPack])), (a0_now, .inr (0, [.ref a0_now_counts, .ref a0_now_roads, .ref a0_now_bridges, .ref a0_now_waggons, .ref a0_now_parts, .ref a0_now_settings, .ref a0_now_trip, .int 0])), (a0_now_counts, .inl (E 0, 4, .inl (fun _ => 0))), (a0_refusals, .inl (E 0, 5, .inl (fun _ => 0)))] sz)) 0 0 (va_A [(a0, .inr (6, [.ref a0_now, .ref a0_kept, .int 0, .ref a0_ways, .ref a0_shelves, .ref a0_tape, .ref a0_reader, .ref a0_refusals, .ref a0_bestPack])), (a0_now, .inr (0, [.ref a0_now_counts, .ref a0_now_roads, .ref a0_now_bridges, .ref a0_now_waggons, .ref a0_now_parts, .ref a0_now_settings, .ref a0_now_trip, .int 0])), (a0_now_counts, .inl (E 0, 4, .inl (fun _ => 0))), (a0_refusals, .inl (E 0, 5, .inl (fun _ => 0)))] sz) := by
  refine Met.ofW (cc := cX6_again) (maxL := 6) (ret := (some .int)) (by decide) rfl ?_
  intro p e s m args below meth c s₁ B hml hv
  obtain ⟨rfl, hsz, hP, hK, hD0, hG⟩ := hv
  have hx := B.exec
  have hb := B.bytes
  have hr := B.returns
  have hts := atoms_spec (ws := (oh_w yX6_again cX6_again 6 (some .int))) B.pre
  have htg : ∀ w ∈ oh_t, w.before _ s = true := fun w h => hts w (List.mem_cons_of_mem _ h)
  have hown : s.vm.findClass RX6 = some m.cls := findClass_of_methodNamed B.named
  have hlocks := B.notSynchronized
  subst hsz
  have hD := hD0.self (sz := s.heap.size)
  generalize hAe : va_A [(a0, .inr (6, [.ref a0_now, .ref a0_kept, .int 0, .ref a0_ways, .ref a0_shelves, .ref a0_tape, .ref a0_reader, .ref a0_refusals, .ref a0_bestPack])), (a0_now, .inr (0, [.ref a0_now_counts, .ref a0_now_roads, .ref a0_now_bridges, .ref a0_now_waggons, .ref a0_now_parts, .ref a0_now_settings, .ref a0_now_trip, .int 0])), (a0_now_counts, .inl (E 0, 4, .inl (fun _ => 0))), (a0_refusals, .inl (E 0, 5, .inl (fun _ => 0)))] s.heap.size = A at hD hG ⊢
  have hA : ∀ q : Nat, s.heap.size ≤ q → A q := fun q h => by rw [← hAe]; exact Or.inr h
  have hS : va_S A s.heap s.heap [] := va_S.rf
  have hP : va_P D vwCl [(a0, .inr (6, [.ref a0_now, .ref a0_kept, .int 0, .ref a0_ways, .ref a0_shelves, .ref a0_tape, .ref a0_reader, .ref a0_refusals, .ref a0_bestPack])), (a0_now, .inr (0, [.ref a0_now_counts, .ref a0_now_roads, .ref a0_now_bridges, .ref a0_now_waggons, .ref a0_now_parts, .ref a0_now_settings, .ref a0_now_trip, .int 0])), (a0_now_counts, .inl (E 0, 4, .inl (fun _ => 0))), (a0_refusals, .inl (E 0, 5, .inl (fun _ => 0)))] s.heap := hP
  have hl := lv_entry ([.ref a0, .int v_a, .int v_b, .int v_c, .int v_d, .int v_e]) (n := 6) (Nat.le_of_ble_eq_true rfl)
  rw [lg_entry_eq]
  generalize (lg_sl ([.ref a0, .int v_a, .int v_b, .int v_c, .int v_d, .int v_e]) ++ List.replicate (6 - (lg_sl ([.ref a0, .int v_a, .int v_b, .int v_c, .int v_d, .int v_e])).length) Slot.unset).toArray = ls at hl ⊢
  have hl : lv_has ls 6 [(0, .ref a0), (1, .int v_a), (2, .int v_b), (3, .int v_c), (4, .int v_d), (5, .int v_e)] := hl
  refine lv_aload_n hx hb dX6_again_0 rfl (lv_at hl 0 rfl) ?_
  refine lv_iload_n hx hb dX6_again_1 rfl (lv_at hl 1 rfl) ?_
  refine lv_iload_n hx hb dX6_again_2 rfl (lv_at hl 2 rfl) ?_
  refine lv_iload_n hx hb dX6_again_3 rfl (lv_at hl 3 rfl) ?_
  refine lv_iload hx hb dX6_again_4 (lv_at hl 4 rfl) ?_
  refine oh_pV (As := [.int v_a, .int v_b, .int v_c, .int v_d]) (rest := []) (v := 0) ⟨hx, hb, hml, hown, htg⟩ (c_X6_isJourney l D E G a0 v_a v_b v_c v_d a0_now a0_kept a0_ways a0_shelves a0_tape a0_reader a0_refusals a0_bestPack a0_now_counts a0_now_roads a0_now_bridges a0_now_waggons a0_now_parts a0_now_settings a0_now_trip) (cwV 4 htg (oh_gV q_776 q_778 q_17 q_66 q_779) rfl rfl rfl pdVX6_isJourney ⟨Nat.le_of_ble_eq_true rfl, Nat.le_of_ble_eq_true rfl⟩) hK (hP.sub (ws' := [(a0, .inr (6, [.ref a0_now, .ref a0_kept, .int 0, .ref a0_ways, .ref a0_shelves, .ref a0_tape, .ref a0_reader, .ref a0_refusals, .ref a0_bestPack])), (a0_now, .inr (0, [.ref a0_now_counts, .ref a0_now_roads, .ref a0_now_bridges, .ref a0_now_waggons, .ref a0_now_parts, .ref a0_now_settings, .ref a0_now_trip, .int 0])), (a0_now_counts, .inl (E 0, 4, .inl (fun _ => 0)))]) [0, 1, 2] rfl) hG hS (va_recv hK hP (ci := 6) (q0 := 0) rfl rfl) rfl hl.1 rfl (Nat.le_of_ble_eq_true rfl) dX6_again_6 ⟨Nat.le_of_ble_eq_true rfl, Nat.le_of_ble_eq_true rfl⟩ ?_
  refine lv_if_eq (tgt := 23) hx hb dX6_again_9 (by decide) (fun _ => ?_) (fun c => absurd (show (0 : Int32) = 0 from by decide) c)
  refine lv_aload_n hx hb dX6_again_23 rfl (lv_at hl 0 rfl) ?_
  refine lv_bipush (v := (-2)) hx hb dX6_again_24 (by decide) ?_
  refine oh_mV (As := [.int (-2)]) (rest := []) (wr := [(a0_now, .inr (0, [.ref a0_now_counts, .ref a0_now_roads, .ref a0_now_bridges, .ref a0_now_waggons, .ref a0_now_parts, .ref a0_now_settings, .ref a0_now_trip, .int 0])), (a0_now_counts, .inl (E 0, 4, .inl (fun _ => 0)))]) ⟨hx, hb, hml, hown, htg⟩ (c_X6_refuse l D E G s.heap.size a0 (-2) a0_now a0_kept a0_ways a0_shelves a0_tape a0_reader a0_refusals a0_bestPack) (cwV 1 htg (oh_gV q_296 q_298 q_0 q_66 q_299) rfl rfl rfl pdVX6_refuse ⟨Nat.le_of_ble_eq_true rfl, Nat.le_of_ble_eq_true rfl⟩) hK hP hD hG hS hA [0, 3] [1, 2] rfl rfl (by decide) (by decide) (by decide) (va_recv hK hP (ci := 6) (q0 := 0) rfl rfl) rfl hl.1 rfl (Nat.le_of_ble_eq_true rfl) dX6_again_26 ⟨Nat.le_of_ble_eq_true rfl, Nat.le_of_ble_eq_true rfl⟩ (fun r_1 u H locs hw hP hD hS => ?_)
  subst hw
  have hP : va_P D vwCl [(a0_now, .inr (0, [.ref a0_now_counts, .ref a0_now_roads, .ref a0_now_bridges, .ref a0_now_waggons, .ref a0_now_parts, .ref a0_now_settings, .ref a0_now_trip, .int 0])), (a0_now_counts, .inl (E 0, 4, .inl (fun _ => 0))), (a0, .inr (6, [.ref a0_now, .ref a0_kept, .int 0, .ref a0_ways, .ref a0_shelves, .ref a0_tape, .ref a0_reader, .ref a0_refusals, .ref a0_bestPack]))] H := hP
  have hD : va_D A [(a0_now, .inr (0, [.ref a0_now_counts, .ref a0_now_roads, .ref a0_now_bridges, .ref a0_now_waggons, .ref a0_now_parts, .ref a0_now_settings, .ref a0_now_trip, .int 0])), (a0_now_counts, .inl (E 0, 4, .inl (fun _ => 0))), (a0, .inr (6, [.ref a0_now, .ref a0_kept, .int 0, .ref a0_ways, .ref a0_shelves, .ref a0_tape, .ref a0_reader, .ref a0_refusals, .ref a0_bestPack]))] := hD
  refine W.widen (k := 0) (n := 0) (Nat.le_refl _) (Nat.le_refl _) ?_
  refine W.widen (k := 0) (n := 0) (Nat.le_of_ble_eq_true rfl) (Nat.le_of_ble_eq_true rfl) ?_
  exact W.iret (v := (-2)) hx hb hr (fun t ht hW => ⟨⟨(-2), (), rfl, rfl, ⟨by rw [ht]; exact hP.sub [] rfl, hD.sub [] (by decide) rfl⟩⟩, hS.F ht⟩) hS.2.2 dX6_again_29
set_option maxHeartbeats 4000000 in
set_option maxRecDepth 100000 in
theorem c_X6_judge (l : Launch) (D : va_G) (E : Nat → ClassId) (G : Nat → Nat) (sz : Nat) (a0 : Nat) (v_a : Int32) (v_b : Int32) (v_c : Int32) (v_d : Int32) (v_e : Int32) (a0_now : Nat) (a0_kept : Nat) (a0_ways : Nat) (a0_shelves : Nat) (a0_tape : Nat) (a0_reader : Nat) (a0_refusals : Nat) (a0_bestPack : Nat) (a0_now_counts : Nat) (a0_now_roads : Nat) (a0_now_bridges : Nat) (a0_now_waggons : Nat) (a0_now_parts : Nat) (a0_now_settings : Nat) (a0_now_trip : Nat) : Met l yX6_judge (oh_w yX6_judge cX6_judge 7 (some .int)) ({ frames := 4, cells := 0, slots := 0, locals := 91 }) (oh_Pm D E G [.ref a0, .int v_a, .int v_b, .int v_c, .int v_d, .int v_e] [(a0, .inr (6, [.ref a0_now, .ref a0_kept, .int 0, .ref a0_ways, .ref a0_shelves, .ref a0_tape, .ref a0_reader, .ref a0_refusals, .ref a0_bestPack])), (a0_now, .inr (0, [.ref a0_now_counts, .ref a0_now_roads, .ref a0_now_bridges, .ref a0_now_waggons, .ref a0_now_parts, .ref a0_now_settings, .ref a0_now_trip, .int 0])), (a0_now_counts, .inl (E 0, 4, .inl (fun _ => 0))), (a0_refusals, .inl (E 0, 5, .inl (fun _ => 0)))] sz) (va_Qi (fun r (_ : Unit) => r = (-2)) (oh_B D (va_A [(a0, .inr (6, [.ref a0_now, .ref a0_kept, .int 0, .ref a0_ways, .ref a0_shelves, .ref a0_tape, .ref a0_reader, .ref a0_refusals, .ref a0_bestPack])), (a0_now, .inr (0, [.ref a0_now_counts, .ref a0_now_roads, .ref a0_now_bridges, .ref a0_now_waggons, .ref a0_now_parts, .ref a0_now_settings, .ref a0_now_trip, .int 0])), (a0_now_counts, .inl (E 0, 4, .inl (fun _ => 0))), (a0_refusals, .inl (E 0, 5, .inl (fun _ => 0)))] sz) (fun _ => [])) (va_A [(a0, .inr (6, [.ref a0_now, .ref a0_kept, .int 0, .ref a0_ways, .ref a0_shelves, .ref a0_tape, .ref a0_reader, .ref a0_refusals, .ref a0_bestPack])), (a0_now, .inr (0, [.ref a0_now_counts, .ref a0_now_roads, .ref a0_now_bridges, .ref a0_now_waggons, .ref a0_now_parts, .ref a0_now_settings, .ref a0_now_trip, .int 0])), (a0_now_counts, .inl (E 0, 4, .inl (fun _ => 0))), (a0_refusals, .inl (E 0, 5, .inl (fun _ => 0)))] sz)) 0 0 (va_A [(a0, .inr (6, [.ref a0_now, .ref a0_kept, .int 0, .ref a0_ways, .ref a0_shelves, .ref a0_tape, .ref a0_reader, .ref a0_refusals, .ref a0_bestPack])), (a0_now, .inr (0, [.ref a0_now_counts, .ref a0_now_roads, .ref a0_now_bridges, .ref a0_now_waggons, .ref a0_now_parts, .ref a0_now_settings, .ref a0_now_trip, .int 0])), (a0_now_counts, .inl (E 0, 4, .inl (fun _ => 0))), (a0_refusals, .inl (E 0, 5, .inl (fun _ => 0)))] sz) := by
  refine Met.ofW (cc := cX6_judge) (maxL := 7) (ret := (some .int)) (by decide) rfl ?_
  intro p e s m args below meth c s₁ B hml hv
  obtain ⟨rfl, hsz, hP, hK, hD0, hG⟩ := hv
  have hx := B.exec
  have hb := B.bytes
  have hr := B.returns
  have hts := atoms_spec (ws := (oh_w yX6_judge cX6_judge 7 (some .int))) B.pre
  have htg : ∀ w ∈ oh_t, w.before _ s = true := fun w h => hts w (List.mem_cons_of_mem _ h)
  have hown : s.vm.findClass RX6 = some m.cls := findClass_of_methodNamed B.named
  have hlocks := B.notSynchronized
  subst hsz
  have hD := hD0.self (sz := s.heap.size)
  generalize hAe : va_A [(a0, .inr (6, [.ref a0_now, .ref a0_kept, .int 0, .ref a0_ways, .ref a0_shelves, .ref a0_tape, .ref a0_reader, .ref a0_refusals, .ref a0_bestPack])), (a0_now, .inr (0, [.ref a0_now_counts, .ref a0_now_roads, .ref a0_now_bridges, .ref a0_now_waggons, .ref a0_now_parts, .ref a0_now_settings, .ref a0_now_trip, .int 0])), (a0_now_counts, .inl (E 0, 4, .inl (fun _ => 0))), (a0_refusals, .inl (E 0, 5, .inl (fun _ => 0)))] s.heap.size = A at hD hG ⊢
  have hA : ∀ q : Nat, s.heap.size ≤ q → A q := fun q h => by rw [← hAe]; exact Or.inr h
  have hS : va_S A s.heap s.heap [] := va_S.rf
  have hP : va_P D vwCl [(a0, .inr (6, [.ref a0_now, .ref a0_kept, .int 0, .ref a0_ways, .ref a0_shelves, .ref a0_tape, .ref a0_reader, .ref a0_refusals, .ref a0_bestPack])), (a0_now, .inr (0, [.ref a0_now_counts, .ref a0_now_roads, .ref a0_now_bridges, .ref a0_now_waggons, .ref a0_now_parts, .ref a0_now_settings, .ref a0_now_trip, .int 0])), (a0_now_counts, .inl (E 0, 4, .inl (fun _ => 0))), (a0_refusals, .inl (E 0, 5, .inl (fun _ => 0)))] s.heap := hP
  have hl := lv_entry ([.ref a0, .int v_a, .int v_b, .int v_c, .int v_d, .int v_e]) (n := 7) (Nat.le_of_ble_eq_true rfl)
  rw [lg_entry_eq]
  generalize (lg_sl ([.ref a0, .int v_a, .int v_b, .int v_c, .int v_d, .int v_e]) ++ List.replicate (7 - (lg_sl ([.ref a0, .int v_a, .int v_b, .int v_c, .int v_d, .int v_e])).length) Slot.unset).toArray = ls at hl ⊢
  have hl : lv_has ls 7 [(0, .ref a0), (1, .int v_a), (2, .int v_b), (3, .int v_c), (4, .int v_d), (5, .int v_e)] := hl
  refine lv_aload_n hx hb dX6_judge_0 rfl (lv_at hl 0 rfl) ?_
  refine lv_iload_n hx hb dX6_judge_1 rfl (lv_at hl 1 rfl) ?_
  refine lv_iload_n hx hb dX6_judge_2 rfl (lv_at hl 2 rfl) ?_
  refine lv_iload_n hx hb dX6_judge_3 rfl (lv_at hl 3 rfl) ?_
  refine lv_iload hx hb dX6_judge_4 (lv_at hl 4 rfl) ?_
  refine lv_iload hx hb dX6_judge_6 (lv_at hl 5 rfl) ?_
  refine oh_pV (As := [.int v_a, .int v_b, .int v_c, .int v_d, .int v_e]) (rest := []) (v := (-2)) ⟨hx, hb, hml, hown, htg⟩ (c_X6_whyNotTold l D E G a0 v_a v_b v_c v_d v_e a0_now a0_kept a0_ways a0_shelves a0_tape a0_reader a0_refusals a0_bestPack a0_now_counts a0_now_roads a0_now_bridges a0_now_waggons a0_now_parts a0_now_settings a0_now_trip) (cwV 5 htg (oh_gV q_830 q_832 q_23 q_66 q_833) rfl rfl rfl pdVX6_whyNotTold ⟨Nat.le_of_ble_eq_true rfl, Nat.le_of_ble_eq_true rfl⟩) hK (hP.sub (ws' := [(a0, .inr (6, [.ref a0_now, .ref a0_kept, .int 0, .ref a0_ways, .ref a0_shelves, .ref a0_tape, .ref a0_reader, .ref a0_refusals, .ref a0_bestPack])), (a0_now, .inr (0, [.ref a0_now_counts, .ref a0_now_roads, .ref a0_now_bridges, .ref a0_now_waggons, .ref a0_now_parts, .ref a0_now_settings, .ref a0_now_trip, .int 0])), (a0_now_counts, .inl (E 0, 4, .inl (fun _ => 0)))]) [0, 1, 2] rfl) hG hS (va_recv hK hP (ci := 6) (q0 := 0) rfl rfl) rfl hl.1 rfl (Nat.le_of_ble_eq_true rfl) dX6_judge_8 ⟨Nat.le_of_ble_eq_true rfl, Nat.le_of_ble_eq_true rfl⟩ ?_
  refine lv_istore (lv' := [(6, .int (-2)), (0, .ref a0), (1, .int v_a), (2, .int v_b), (3, .int v_c), (4, .int v_d), (5, .int v_e)]) hx hb dX6_judge_11 hl (by decide) rfl (fun ls hl => ?_)
  refine lv_iload hx hb dX6_judge_13 (lv_at hl 0 rfl) ?_
  refine lv_if_eq (tgt := 25) hx hb dX6_judge_15 (by decide) (fun c => absurd c (show ¬ ((-2 : Int32) = 0) from by decide)) (fun _ => ?_)
  refine lv_aload_n hx hb dX6_judge_18 rfl (lv_at hl 1 rfl) ?_
  refine lv_iload hx hb dX6_judge_19 (lv_at hl 0 rfl) ?_
  refine oh_mV (As := [.int (-2)]) (rest := []) (wr := [(a0_now, .inr (0, [.ref a0_now_counts, .ref a0_now_roads, .ref a0_now_bridges, .ref a0_now_waggons, .ref a0_now_parts, .ref a0_now_settings, .ref a0_now_trip, .int 0])), (a0_now_counts, .inl (E 0, 4, .inl (fun _ => 0)))]) ⟨hx, hb, hml, hown, htg⟩ (c_X6_refuse l D E G s.heap.size a0 (-2) a0_now a0_kept a0_ways a0_shelves a0_tape a0_reader a0_refusals a0_bestPack) (cwV 1 htg (oh_gV q_296 q_298 q_0 q_66 q_299) rfl rfl rfl pdVX6_refuse ⟨Nat.le_of_ble_eq_true rfl, Nat.le_of_ble_eq_true rfl⟩) hK hP hD hG hS hA [0, 3] [1, 2] rfl rfl (by decide) (by decide) (by decide) (va_recv hK hP (ci := 6) (q0 := 0) rfl rfl) rfl hl.1 rfl (Nat.le_of_ble_eq_true rfl) dX6_judge_21 ⟨Nat.le_of_ble_eq_true rfl, Nat.le_of_ble_eq_true rfl⟩ (fun r_1 u H locs hw hP hD hS => ?_)
  subst hw
  have hP : va_P D vwCl [(a0_now, .inr (0, [.ref a0_now_counts, .ref a0_now_roads, .ref a0_now_bridges, .ref a0_now_waggons, .ref a0_now_parts, .ref a0_now_settings, .ref a0_now_trip, .int 0])), (a0_now_counts, .inl (E 0, 4, .inl (fun _ => 0))), (a0, .inr (6, [.ref a0_now, .ref a0_kept, .int 0, .ref a0_ways, .ref a0_shelves, .ref a0_tape, .ref a0_reader, .ref a0_refusals, .ref a0_bestPack]))] H := hP
  have hD : va_D A [(a0_now, .inr (0, [.ref a0_now_counts, .ref a0_now_roads, .ref a0_now_bridges, .ref a0_now_waggons, .ref a0_now_parts, .ref a0_now_settings, .ref a0_now_trip, .int 0])), (a0_now_counts, .inl (E 0, 4, .inl (fun _ => 0))), (a0, .inr (6, [.ref a0_now, .ref a0_kept, .int 0, .ref a0_ways, .ref a0_shelves, .ref a0_tape, .ref a0_reader, .ref a0_refusals, .ref a0_bestPack]))] := hD
  refine W.widen (k := 0) (n := 0) (Nat.le_refl _) (Nat.le_refl _) ?_
  refine W.widen (k := 0) (n := 0) (Nat.le_of_ble_eq_true rfl) (Nat.le_of_ble_eq_true rfl) ?_
  exact W.iret (v := (-2)) hx hb hr (fun t ht hW => ⟨⟨(-2), (), rfl, rfl, ⟨by rw [ht]; exact hP.sub [] rfl, hD.sub [] (by decide) rfl⟩⟩, hS.F ht⟩) hS.2.2 dX6_judge_24
set_option maxHeartbeats 4000000 in
set_option maxRecDepth 100000 in
theorem c_X6_told (l : Launch) (D : va_G) (E : Nat → ClassId) (G : Nat → Nat) (sz : Nat) (a0 : Nat) (v_a : Int32) (v_b : Int32) (v_c : Int32) (v_d : Int32) (v_e : Int32) (v_f : Int32) (a0_now : Nat) (a0_kept : Nat) (a0_ways : Nat) (a0_shelves : Nat) (a0_tape : Nat) (a0_reader : Nat) (a0_refusals : Nat) (a0_bestPack : Nat) (a0_now_counts : Nat) (a0_now_roads : Nat) (a0_now_bridges : Nat) (a0_now_waggons : Nat) (a0_now_parts : Nat) (a0_now_settings : Nat) (a0_now_trip : Nat) : Met l yX6_told (oh_w yX6_told cX6_told 8 (some .int)) ({ frames := 4, cells := 0, slots := 0, locals := 91 }) (oh_Pm D E G [.ref a0, .int v_a, .int v_b, .int v_c, .int v_d, .int v_e, .int v_f] [(a0, .inr (6, [.ref a0_now, .ref a0_kept, .int 0, .ref a0_ways, .ref a0_shelves, .ref a0_tape, .ref a0_reader, .ref a0_refusals, .ref a0_bestPack])), (a0_now, .inr (0, [.ref a0_now_counts, .ref a0_now_roads, .ref a0_now_bridges, .ref a0_now_waggons, .ref a0_now_parts, .ref a0_now_settings, .ref a0_now_trip, .int 0])), (a0_now_counts, .inl (E 0, 4, .inl (fun _ => 0))), (a0_refusals, .inl (E 0, 5, .inl (fun _ => 0)))] sz) (va_Qi (fun r (_ : Unit) => r = (-2)) (oh_B D (va_A [(a0, .inr (6, [.ref a0_now, .ref a0_kept, .int 0, .ref a0_ways, .ref a0_shelves, .ref a0_tape, .ref a0_reader, .ref a0_refusals, .ref a0_bestPack])), (a0_now, .inr (0, [.ref a0_now_counts, .ref a0_now_roads, .ref a0_now_bridges, .ref a0_now_waggons, .ref a0_now_parts, .ref a0_now_settings, .ref a0_now_trip, .int 0])), (a0_now_counts, .inl (E 0, 4, .inl (fun _ => 0))), (a0_refusals, .inl (E 0, 5, .inl (fun _ => 0)))] sz) (fun _ => [])) (va_A [(a0, .inr (6, [.ref a0_now, .ref a0_kept, .int 0, .ref a0_ways, .ref a0_shelves, .ref a0_tape, .ref a0_reader, .ref a0_refusals, .ref a0_bestPack])), (a0_now, .inr (0, [.ref a0_now_counts, .ref a0_now_roads, .ref a0_now_bridges, .ref a0_now_waggons, .ref a0_now_parts, .ref a0_now_settings, .ref a0_now_trip, .int 0])), (a0_now_counts, .inl (E 0, 4, .inl (fun _ => 0))), (a0_refusals, .inl (E 0, 5, .inl (fun _ => 0)))] sz)) 0 0 (va_A [(a0, .inr (6, [.ref a0_now, .ref a0_kept, .int 0, .ref a0_ways, .ref a0_shelves, .ref a0_tape, .ref a0_reader, .ref a0_refusals, .ref a0_bestPack])), (a0_now, .inr (0, [.ref a0_now_counts, .ref a0_now_roads, .ref a0_now_bridges, .ref a0_now_waggons, .ref a0_now_parts, .ref a0_now_settings, .ref a0_now_trip, .int 0])), (a0_now_counts, .inl (E 0, 4, .inl (fun _ => 0))), (a0_refusals, .inl (E 0, 5, .inl (fun _ => 0)))] sz) := by
  refine Met.ofW (cc := cX6_told) (maxL := 8) (ret := (some .int)) (by decide) rfl ?_
  intro p e s m args below meth c s₁ B hml hv
  obtain ⟨rfl, hsz, hP, hK, hD0, hG⟩ := hv
  have hx := B.exec
  have hb := B.bytes
  have hr := B.returns
  have hts := atoms_spec (ws := (oh_w yX6_told cX6_told 8 (some .int))) B.pre
  have htg : ∀ w ∈ oh_t, w.before _ s = true := fun w h => hts w (List.mem_cons_of_mem _ h)
  have hown : s.vm.findClass RX6 = some m.cls := findClass_of_methodNamed B.named
  have hlocks := B.notSynchronized
  subst hsz
  have hD := hD0.self (sz := s.heap.size)
  generalize hAe : va_A [(a0, .inr (6, [.ref a0_now, .ref a0_kept, .int 0, .ref a0_ways, .ref a0_shelves, .ref a0_tape, .ref a0_reader, .ref a0_refusals, .ref a0_bestPack])), (a0_now, .inr (0, [.ref a0_now_counts, .ref a0_now_roads, .ref a0_now_bridges, .ref a0_now_waggons, .ref a0_now_parts, .ref a0_now_settings, .ref a0_now_trip, .int 0])), (a0_now_counts, .inl (E 0, 4, .inl (fun _ => 0))), (a0_refusals, .inl (E 0, 5, .inl (fun _ => 0)))] s.heap.size = A at hD hG ⊢
  have hA : ∀ q : Nat, s.heap.size ≤ q → A q := fun q h => by rw [← hAe]; exact Or.inr h
  have hS : va_S A s.heap s.heap [] := va_S.rf
  have hP : va_P D vwCl [(a0, .inr (6, [.ref a0_now, .ref a0_kept, .int 0, .ref a0_ways, .ref a0_shelves, .ref a0_tape, .ref a0_reader, .ref a0_refusals, .ref a0_bestPack])), (a0_now, .inr (0, [.ref a0_now_counts, .ref a0_now_roads, .ref a0_now_bridges, .ref a0_now_waggons, .ref a0_now_parts, .ref a0_now_settings, .ref a0_now_trip, .int 0])), (a0_now_counts, .inl (E 0, 4, .inl (fun _ => 0))), (a0_refusals, .inl (E 0, 5, .inl (fun _ => 0)))] s.heap := hP
  have hl := lv_entry ([.ref a0, .int v_a, .int v_b, .int v_c, .int v_d, .int v_e, .int v_f]) (n := 8) (Nat.le_of_ble_eq_true rfl)
  rw [lg_entry_eq]
  generalize (lg_sl ([.ref a0, .int v_a, .int v_b, .int v_c, .int v_d, .int v_e, .int v_f]) ++ List.replicate (8 - (lg_sl ([.ref a0, .int v_a, .int v_b, .int v_c, .int v_d, .int v_e, .int v_f])).length) Slot.unset).toArray = ls at hl ⊢
  have hl : lv_has ls 8 [(0, .ref a0), (1, .int v_a), (2, .int v_b), (3, .int v_c), (4, .int v_d), (5, .int v_e), (6, .int v_f)] := hl
  refine lv_iload hx hb dX6_told_0 (lv_at hl 6 rfl) ?_
  refine lv_iconst (v := 0) hx hb dX6_told_2 (by decide) ?_
  refine lv_iconst (v := 3) hx hb dX6_told_3 (by decide) ?_
  refine oh_pS (As := [.int v_f, .int 0, .int 3]) (rest := []) (v := fX6_within v_f 0 3) ⟨hx, hb, hml, hown, htg⟩ (c_X6_within l D E G v_f 0 3) (va_cwS 3 htg (oh_gS q_293 q_294 q_66 q_295) rfl rfl rfl pdX6_within ⟨Nat.le_of_ble_eq_true rfl, Nat.le_of_ble_eq_true rfl⟩) hK (hP.sub (ws' := []) [] rfl) hG hS rfl hl.1 rfl (Nat.le_of_ble_eq_true rfl) dX6_told_4 ⟨Nat.le_of_ble_eq_true rfl, Nat.le_of_ble_eq_true rfl⟩ ?_
  refine lv_if_eq (tgt := 24) hx hb dX6_told_7 (by decide) (fun (c_1 : (fX6_within v_f 0 3) = 0) => ?_) (fun (c_1 : ¬ ((fX6_within v_f 0 3) = 0)) => ?_)
  · refine lv_bipush (v := (-2)) hx hb dX6_told_24 (by decide) ?_
    refine lv_istore (lv' := [(7, .int (-2)), (0, .ref a0), (1, .int v_a), (2, .int v_b), (3, .int v_c), (4, .int v_d), (5, .int v_e), (6, .int v_f)]) hx hb dX6_told_26 hl (by decide) rfl (fun ls hl => ?_)
    refine lv_iload hx hb dX6_told_28 (lv_at hl 0 rfl) ?_
    refine lv_if_eq (tgt := 40) hx hb dX6_told_30 (by decide) (fun c => absurd c (show ¬ ((-2 : Int32) = 0) from by decide)) (fun _ => ?_)
    refine lv_aload_n hx hb dX6_told_33 rfl (lv_at hl 1 rfl) ?_
    refine lv_iload hx hb dX6_told_34 (lv_at hl 0 rfl) ?_
    refine oh_mV (As := [.int (-2)]) (rest := []) (wr := [(a0_now, .inr (0, [.ref a0_now_counts, .ref a0_now_roads, .ref a0_now_bridges, .ref a0_now_waggons, .ref a0_now_parts, .ref a0_now_settings, .ref a0_now_trip, .int 0])), (a0_now_counts, .inl (E 0, 4, .inl (fun _ => 0)))]) ⟨hx, hb, hml, hown, htg⟩ (c_X6_refuse l D E G s.heap.size a0 (-2) a0_now a0_kept a0_ways a0_shelves a0_tape a0_reader a0_refusals a0_bestPack) (cwV 1 htg (oh_gV q_296 q_298 q_0 q_66 q_299) rfl rfl rfl pdVX6_refuse ⟨Nat.le_of_ble_eq_true rfl, Nat.le_of_ble_eq_true rfl⟩) hK hP hD hG hS hA [0, 3] [1, 2] rfl rfl (by decide) (by decide) (by decide) (va_recv hK hP (ci := 6) (q0 := 0) rfl rfl) rfl hl.1 rfl (Nat.le_of_ble_eq_true rfl) dX6_told_36 ⟨Nat.le_of_ble_eq_true rfl, Nat.le_of_ble_eq_true rfl⟩ (fun r_1 u H locs hw hP hD hS => ?_)
    subst hw
    have hP : va_P D vwCl [(a0_now, .inr (0, [.ref a0_now_counts, .ref a0_now_roads, .ref a0_now_bridges, .ref a0_now_waggons, .ref a0_now_parts, .ref a0_now_settings, .ref a0_now_trip, .int 0])), (a0_now_counts, .inl (E 0, 4, .inl (fun _ => 0))), (a0, .inr (6, [.ref a0_now, .ref a0_kept, .int 0, .ref a0_ways, .ref a0_shelves, .ref a0_tape, .ref a0_reader, .ref a0_refusals, .ref a0_bestPack]))] H := hP
    have hD : va_D A [(a0_now, .inr (0, [.ref a0_now_counts, .ref a0_now_roads, .ref a0_now_bridges, .ref a0_now_waggons, .ref a0_now_parts, .ref a0_now_settings, .ref a0_now_trip, .int 0])), (a0_now_counts, .inl (E 0, 4, .inl (fun _ => 0))), (a0, .inr (6, [.ref a0_now, .ref a0_kept, .int 0, .ref a0_ways, .ref a0_shelves, .ref a0_tape, .ref a0_reader, .ref a0_refusals, .ref a0_bestPack]))] := hD
    refine W.widen (k := 0) (n := 0) (Nat.le_refl _) (Nat.le_refl _) ?_
    refine W.widen (k := 0) (n := 0) (Nat.le_of_ble_eq_true rfl) (Nat.le_of_ble_eq_true rfl) ?_
    exact W.iret (v := (-2)) hx hb hr (fun t ht hW => ⟨⟨(-2), (), rfl, rfl, ⟨by rw [ht]; exact hP.sub [] rfl, hD.sub [] (by decide) rfl⟩⟩, hS.F ht⟩) hS.2.2 dX6_told_39
  · refine lv_aload_n hx hb dX6_told_10 rfl (lv_at hl 0 rfl) ?_
    refine lv_iload_n hx hb dX6_told_11 rfl (lv_at hl 1 rfl) ?_
    refine lv_iload_n hx hb dX6_told_12 rfl (lv_at hl 2 rfl) ?_
    refine lv_iload_n hx hb dX6_told_13 rfl (lv_at hl 3 rfl) ?_
    refine lv_iload hx hb dX6_told_14 (lv_at hl 4 rfl) ?_
    refine lv_iload hx hb dX6_told_16 (lv_at hl 5 rfl) ?_
    refine oh_pV (As := [.int v_a, .int v_b, .int v_c, .int v_d, .int v_e]) (rest := []) (v := (-2)) ⟨hx, hb, hml, hown, htg⟩ (c_X6_whyNotTold l D E G a0 v_a v_b v_c v_d v_e a0_now a0_kept a0_ways a0_shelves a0_tape a0_reader a0_refusals a0_bestPack a0_now_counts a0_now_roads a0_now_bridges a0_now_waggons a0_now_parts a0_now_settings a0_now_trip) (cwV 5 htg (oh_gV q_830 q_832 q_23 q_66 q_833) rfl rfl rfl pdVX6_whyNotTold ⟨Nat.le_of_ble_eq_true rfl, Nat.le_of_ble_eq_true rfl⟩) hK (hP.sub (ws' := [(a0, .inr (6, [.ref a0_now, .ref a0_kept, .int 0, .ref a0_ways, .ref a0_shelves, .ref a0_tape, .ref a0_reader, .ref a0_refusals, .ref a0_bestPack])), (a0_now, .inr (0, [.ref a0_now_counts, .ref a0_now_roads, .ref a0_now_bridges, .ref a0_now_waggons, .ref a0_now_parts, .ref a0_now_settings, .ref a0_now_trip, .int 0])), (a0_now_counts, .inl (E 0, 4, .inl (fun _ => 0)))]) [0, 1, 2] rfl) hG hS (va_recv hK hP (ci := 6) (q0 := 0) rfl rfl) rfl hl.1 rfl (Nat.le_of_ble_eq_true rfl) dX6_told_18 ⟨Nat.le_of_ble_eq_true rfl, Nat.le_of_ble_eq_true rfl⟩ ?_
    refine lv_goto (tgt := 26) hx hb dX6_told_21 (by decide) ?_
    refine lv_istore (lv' := [(7, .int (-2)), (0, .ref a0), (1, .int v_a), (2, .int v_b), (3, .int v_c), (4, .int v_d), (5, .int v_e), (6, .int v_f)]) hx hb dX6_told_26 hl (by decide) rfl (fun ls hl => ?_)
    refine lv_iload hx hb dX6_told_28 (lv_at hl 0 rfl) ?_
    refine lv_if_eq (tgt := 40) hx hb dX6_told_30 (by decide) (fun c => absurd c (show ¬ ((-2 : Int32) = 0) from by decide)) (fun _ => ?_)
    refine lv_aload_n hx hb dX6_told_33 rfl (lv_at hl 1 rfl) ?_
    refine lv_iload hx hb dX6_told_34 (lv_at hl 0 rfl) ?_
    refine oh_mV (As := [.int (-2)]) (rest := []) (wr := [(a0_now, .inr (0, [.ref a0_now_counts, .ref a0_now_roads, .ref a0_now_bridges, .ref a0_now_waggons, .ref a0_now_parts, .ref a0_now_settings, .ref a0_now_trip, .int 0])), (a0_now_counts, .inl (E 0, 4, .inl (fun _ => 0)))]) ⟨hx, hb, hml, hown, htg⟩ (c_X6_refuse l D E G s.heap.size a0 (-2) a0_now a0_kept a0_ways a0_shelves a0_tape a0_reader a0_refusals a0_bestPack) (cwV 1 htg (oh_gV q_296 q_298 q_0 q_66 q_299) rfl rfl rfl pdVX6_refuse ⟨Nat.le_of_ble_eq_true rfl, Nat.le_of_ble_eq_true rfl⟩) hK hP hD hG hS hA [0, 3] [1, 2] rfl rfl (by decide) (by decide) (by decide) (va_recv hK hP (ci := 6) (q0 := 0) rfl rfl) rfl hl.1 rfl (Nat.le_of_ble_eq_true rfl) dX6_told_36 ⟨Nat.le_of_ble_eq_true rfl, Nat.le_of_ble_eq_true rfl⟩ (fun r_2 u H locs hw hP hD hS => ?_)
    subst hw
    have hP : va_P D vwCl [(a0_now, .inr (0, [.ref a0_now_counts, .ref a0_now_roads, .ref a0_now_bridges, .ref a0_now_waggons, .ref a0_now_parts, .ref a0_now_settings, .ref a0_now_trip, .int 0])), (a0_now_counts, .inl (E 0, 4, .inl (fun _ => 0))), (a0, .inr (6, [.ref a0_now, .ref a0_kept, .int 0, .ref a0_ways, .ref a0_shelves, .ref a0_tape, .ref a0_reader, .ref a0_refusals, .ref a0_bestPack]))] H := hP
    have hD : va_D A [(a0_now, .inr (0, [.ref a0_now_counts, .ref a0_now_roads, .ref a0_now_bridges, .ref a0_now_waggons, .ref a0_now_parts, .ref a0_now_settings, .ref a0_now_trip, .int 0])), (a0_now_counts, .inl (E 0, 4, .inl (fun _ => 0))), (a0, .inr (6, [.ref a0_now, .ref a0_kept, .int 0, .ref a0_ways, .ref a0_shelves, .ref a0_tape, .ref a0_reader, .ref a0_refusals, .ref a0_bestPack]))] := hD
    refine W.widen (k := 0) (n := 0) (Nat.le_refl _) (Nat.le_refl _) ?_
    refine W.widen (k := 0) (n := 0) (Nat.le_of_ble_eq_true rfl) (Nat.le_of_ble_eq_true rfl) ?_
    exact W.iret (v := (-2)) hx hb hr (fun t ht hW => ⟨⟨(-2), (), rfl, rfl, ⟨by rw [ht]; exact hP.sub [] rfl, hD.sub [] (by decide) rfl⟩⟩, hS.F ht⟩) hS.2.2 dX6_told_39
set_option maxHeartbeats 4000000 in
set_option maxRecDepth 100000 in
theorem c_X6_reach (l : Launch) (D : va_G) (E : Nat → ClassId) (G : Nat → Nat) (sz : Nat) (a0 : Nat) (v_a : Int32) (v_b : Int32) (v_c : Int32) (a0_now : Nat) (a0_kept : Nat) (a0_ways : Nat) (a0_shelves : Nat) (a0_tape : Nat) (a0_reader : Nat) (a0_refusals : Nat) (a0_bestPack : Nat) (a0_now_counts : Nat) (a0_now_roads : Nat) (a0_now_bridges : Nat) (a0_now_waggons : Nat) (a0_now_parts : Nat) (a0_now_settings : Nat) (a0_now_trip : Nat) : Met l yX6_reach (oh_w yX6_reach cX6_reach 4 (some .int)) ({ frames := 3, cells := 0, slots := 0, locals := 65 }) (oh_Pm D E G [.ref a0, .int v_a, .int v_b, .int v_c] [(a0, .inr (6, [.ref a0_now, .ref a0_kept, .int 0, .ref a0_ways, .ref a0_shelves, .ref a0_tape, .ref a0_reader, .ref a0_refusals, .ref a0_bestPack])), (a0_now, .inr (0, [.ref a0_now_counts, .ref a0_now_roads, .ref a0_now_bridges, .ref a0_now_waggons, .ref a0_now_parts, .ref a0_now_settings, .ref a0_now_trip, .int 0])), (a0_now_counts, .inl (E 0, 4, .inl (fun _ => 0))), (a0_refusals, .inl (E 0, 5, .inl (fun _ => 0)))] sz) (va_Qi (fun r (_ : Unit) => r = (-2)) (oh_B D (va_A [(a0, .inr (6, [.ref a0_now, .ref a0_kept, .int 0, .ref a0_ways, .ref a0_shelves, .ref a0_tape, .ref a0_reader, .ref a0_refusals, .ref a0_bestPack])), (a0_now, .inr (0, [.ref a0_now_counts, .ref a0_now_roads, .ref a0_now_bridges, .ref a0_now_waggons, .ref a0_now_parts, .ref a0_now_settings, .ref a0_now_trip, .int 0])), (a0_now_counts, .inl (E 0, 4, .inl (fun _ => 0))), (a0_refusals, .inl (E 0, 5, .inl (fun _ => 0)))] sz) (fun _ => [])) (va_A [(a0, .inr (6, [.ref a0_now, .ref a0_kept, .int 0, .ref a0_ways, .ref a0_shelves, .ref a0_tape, .ref a0_reader, .ref a0_refusals, .ref a0_bestPack])), (a0_now, .inr (0, [.ref a0_now_counts, .ref a0_now_roads, .ref a0_now_bridges, .ref a0_now_waggons, .ref a0_now_parts, .ref a0_now_settings, .ref a0_now_trip, .int 0])), (a0_now_counts, .inl (E 0, 4, .inl (fun _ => 0))), (a0_refusals, .inl (E 0, 5, .inl (fun _ => 0)))] sz)) 0 0 (va_A [(a0, .inr (6, [.ref a0_now, .ref a0_kept, .int 0, .ref a0_ways, .ref a0_shelves, .ref a0_tape, .ref a0_reader, .ref a0_refusals, .ref a0_bestPack])), (a0_now, .inr (0, [.ref a0_now_counts, .ref a0_now_roads, .ref a0_now_bridges, .ref a0_now_waggons, .ref a0_now_parts, .ref a0_now_settings, .ref a0_now_trip, .int 0])), (a0_now_counts, .inl (E 0, 4, .inl (fun _ => 0))), (a0_refusals, .inl (E 0, 5, .inl (fun _ => 0)))] sz) := by
  refine Met.ofW (cc := cX6_reach) (maxL := 4) (ret := (some .int)) (by decide) rfl ?_
  intro p e s m args below meth c s₁ B hml hv
  obtain ⟨rfl, hsz, hP, hK, hD0, hG⟩ := hv
  have hx := B.exec
  have hb := B.bytes
  have hr := B.returns
  have hts := atoms_spec (ws := (oh_w yX6_reach cX6_reach 4 (some .int))) B.pre
  have htg : ∀ w ∈ oh_t, w.before _ s = true := fun w h => hts w (List.mem_cons_of_mem _ h)
  have hown : s.vm.findClass RX6 = some m.cls := findClass_of_methodNamed B.named
  have hlocks := B.notSynchronized
  subst hsz
  have hD := hD0.self (sz := s.heap.size)
  generalize hAe : va_A [(a0, .inr (6, [.ref a0_now, .ref a0_kept, .int 0, .ref a0_ways, .ref a0_shelves, .ref a0_tape, .ref a0_reader, .ref a0_refusals, .ref a0_bestPack])), (a0_now, .inr (0, [.ref a0_now_counts, .ref a0_now_roads, .ref a0_now_bridges, .ref a0_now_waggons, .ref a0_now_parts, .ref a0_now_settings, .ref a0_now_trip, .int 0])), (a0_now_counts, .inl (E 0, 4, .inl (fun _ => 0))), (a0_refusals, .inl (E 0, 5, .inl (fun _ => 0)))] s.heap.size = A at hD hG ⊢
  have hA : ∀ q : Nat, s.heap.size ≤ q → A q := fun q h => by rw [← hAe]; exact Or.inr h
  have hS : va_S A s.heap s.heap [] := va_S.rf
  have hP : va_P D vwCl [(a0, .inr (6, [.ref a0_now, .ref a0_kept, .int 0, .ref a0_ways, .ref a0_shelves, .ref a0_tape, .ref a0_reader, .ref a0_refusals, .ref a0_bestPack])), (a0_now, .inr (0, [.ref a0_now_counts, .ref a0_now_roads, .ref a0_now_bridges, .ref a0_now_waggons, .ref a0_now_parts, .ref a0_now_settings, .ref a0_now_trip, .int 0])), (a0_now_counts, .inl (E 0, 4, .inl (fun _ => 0))), (a0_refusals, .inl (E 0, 5, .inl (fun _ => 0)))] s.heap := hP
  have hl := lv_entry ([.ref a0, .int v_a, .int v_b, .int v_c]) (n := 4) (Nat.le_of_ble_eq_true rfl)
  rw [lg_entry_eq]
  generalize (lg_sl ([.ref a0, .int v_a, .int v_b, .int v_c]) ++ List.replicate (4 - (lg_sl ([.ref a0, .int v_a, .int v_b, .int v_c])).length) Slot.unset).toArray = ls at hl ⊢
  have hl : lv_has ls 4 [(0, .ref a0), (1, .int v_a), (2, .int v_b), (3, .int v_c)] := hl
  refine lv_aload_n hx hb dX6_reach_0 rfl (lv_at hl 0 rfl) ?_
  refine lv_iload_n hx hb dX6_reach_1 rfl (lv_at hl 1 rfl) ?_
  refine lv_iload_n hx hb dX6_reach_2 rfl (lv_at hl 2 rfl) ?_
  refine oh_pV (As := [.int v_a, .int v_b]) (rest := []) (v := 0) ⟨hx, hb, hml, hown, htg⟩ (c_X6_isPack l D E G a0 v_a v_b a0_now a0_kept a0_ways a0_shelves a0_tape a0_reader a0_refusals a0_bestPack a0_now_counts a0_now_roads a0_now_bridges a0_now_waggons a0_now_parts a0_now_settings a0_now_trip) (cwV 2 htg (oh_gV q_695 q_697 q_16 q_66 q_698) rfl rfl rfl pdVX6_isPack ⟨Nat.le_of_ble_eq_true rfl, Nat.le_of_ble_eq_true rfl⟩) hK (hP.sub (ws' := [(a0, .inr (6, [.ref a0_now, .ref a0_kept, .int 0, .ref a0_ways, .ref a0_shelves, .ref a0_tape, .ref a0_reader, .ref a0_refusals, .ref a0_bestPack])), (a0_now, .inr (0, [.ref a0_now_counts, .ref a0_now_roads, .ref a0_now_bridges, .ref a0_now_waggons, .ref a0_now_parts, .ref a0_now_settings, .ref a0_now_trip, .int 0])), (a0_now_counts, .inl (E 0, 4, .inl (fun _ => 0)))]) [0, 1, 2] rfl) hG hS (va_recv hK hP (ci := 6) (q0 := 0) rfl rfl) rfl hl.1 rfl (Nat.le_of_ble_eq_true rfl) dX6_reach_3 ⟨Nat.le_of_ble_eq_true rfl, Nat.le_of_ble_eq_true rfl⟩ ?_
  refine lv_if_eq (tgt := 16) hx hb dX6_reach_6 (by decide) (fun _ => ?_) (fun c => absurd (show (0 : Int32) = 0 from by decide) c)
  refine lv_aload_n hx hb dX6_reach_16 rfl (lv_at hl 0 rfl) ?_
  refine lv_bipush (v := (-2)) hx hb dX6_reach_17 (by decide) ?_
  refine oh_mV (As := [.int (-2)]) (rest := []) (wr := [(a0_now, .inr (0, [.ref a0_now_counts, .ref a0_now_roads, .ref a0_now_bridges, .ref a0_now_waggons, .ref a0_now_parts, .ref a0_now_settings, .ref a0_now_trip, .int 0])), (a0_now_counts, .inl (E 0, 4, .inl (fun _ => 0)))]) ⟨hx, hb, hml, hown, htg⟩ (c_X6_refuse l D E G s.heap.size a0 (-2) a0_now a0_kept a0_ways a0_shelves a0_tape a0_reader a0_refusals a0_bestPack) (cwV 1 htg (oh_gV q_296 q_298 q_0 q_66 q_299) rfl rfl rfl pdVX6_refuse ⟨Nat.le_of_ble_eq_true rfl, Nat.le_of_ble_eq_true rfl⟩) hK hP hD hG hS hA [0, 3] [1, 2] rfl rfl (by decide) (by decide) (by decide) (va_recv hK hP (ci := 6) (q0 := 0) rfl rfl) rfl hl.1 rfl (Nat.le_of_ble_eq_true rfl) dX6_reach_19 ⟨Nat.le_of_ble_eq_true rfl, Nat.le_of_ble_eq_true rfl⟩ (fun r_1 u H locs hw hP hD hS => ?_)
  subst hw
  have hP : va_P D vwCl [(a0_now, .inr (0, [.ref a0_now_counts, .ref a0_now_roads, .ref a0_now_bridges, .ref a0_now_waggons, .ref a0_now_parts, .ref a0_now_settings, .ref a0_now_trip, .int 0])), (a0_now_counts, .inl (E 0, 4, .inl (fun _ => 0))), (a0, .inr (6, [.ref a0_now, .ref a0_kept, .int 0, .ref a0_ways, .ref a0_shelves, .ref a0_tape, .ref a0_reader, .ref a0_refusals, .ref a0_bestPack]))] H := hP
  have hD : va_D A [(a0_now, .inr (0, [.ref a0_now_counts, .ref a0_now_roads, .ref a0_now_bridges, .ref a0_now_waggons, .ref a0_now_parts, .ref a0_now_settings, .ref a0_now_trip, .int 0])), (a0_now_counts, .inl (E 0, 4, .inl (fun _ => 0))), (a0, .inr (6, [.ref a0_now, .ref a0_kept, .int 0, .ref a0_ways, .ref a0_shelves, .ref a0_tape, .ref a0_reader, .ref a0_refusals, .ref a0_bestPack]))] := hD
  refine W.widen (k := 0) (n := 0) (Nat.le_refl _) (Nat.le_refl _) ?_
  refine W.widen (k := 0) (n := 0) (Nat.le_of_ble_eq_true rfl) (Nat.le_of_ble_eq_true rfl) ?_
  exact W.iret (v := (-2)) hx hb hr (fun t ht hW => ⟨⟨(-2), (), rfl, rfl, ⟨by rw [ht]; exact hP.sub [] rfl, hD.sub [] (by decide) rfl⟩⟩, hS.F ht⟩) hS.2.2 dX6_reach_22
set_option maxHeartbeats 4000000 in
set_option maxRecDepth 100000 in
theorem c_X6_hang (l : Launch) (D : va_G) (E : Nat → ClassId) (G : Nat → Nat) (sz : Nat) (a0 : Nat) (v_a : Int32) (v_b : Int32) (v_c : Int32) (v_d : Int32) (a0_now : Nat) (a0_kept : Nat) (a0_ways : Nat) (a0_shelves : Nat) (a0_tape : Nat) (a0_reader : Nat) (a0_refusals : Nat) (a0_bestPack : Nat) (a0_now_counts : Nat) (a0_now_roads : Nat) (a0_now_bridges : Nat) (a0_now_waggons : Nat) (a0_now_parts : Nat) (a0_now_settings : Nat) (a0_now_trip : Nat) : Met l yX6_hang (oh_w yX6_hang cX6_hang 9 (some .int)) ({ frames := 4, cells := 0, slots := 0, locals := 89 }) (oh_Pm D E G [.ref a0, .int v_a, .int v_b, .int v_c, .int v_d] [(a0, .inr (6, [.ref a0_now, .ref a0_kept, .int 0, .ref a0_ways, .ref a0_shelves, .ref a0_tape, .ref a0_reader, .ref a0_refusals, .ref a0_bestPack])), (a0_now, .inr (0, [.ref a0_now_counts, .ref a0_now_roads, .ref a0_now_bridges, .ref a0_now_waggons, .ref a0_now_parts, .ref a0_now_settings, .ref a0_now_trip, .int 0])), (a0_now_counts, .inl (E 0, 4, .inl (fun _ => 0))), (a0_refusals, .inl (E 0, 5, .inl (fun _ => 0)))] sz) (va_Qi (fun r (_ : Unit) => r = (-2)) (oh_B D (va_A [(a0, .inr (6, [.ref a0_now, .ref a0_kept, .int 0, .ref a0_ways, .ref a0_shelves, .ref a0_tape, .ref a0_reader, .ref a0_refusals, .ref a0_bestPack])), (a0_now, .inr (0, [.ref a0_now_counts, .ref a0_now_roads, .ref a0_now_bridges, .ref a0_now_waggons, .ref a0_now_parts, .ref a0_now_settings, .ref a0_now_trip, .int 0])), (a0_now_counts, .inl (E 0, 4, .inl (fun _ => 0))), (a0_refusals, .inl (E 0, 5, .inl (fun _ => 0)))] sz) (fun _ => [])) (va_A [(a0, .inr (6, [.ref a0_now, .ref a0_kept, .int 0, .ref a0_ways, .ref a0_shelves, .ref a0_tape, .ref a0_reader, .ref a0_refusals, .ref a0_bestPack])), (a0_now, .inr (0, [.ref a0_now_counts, .ref a0_now_roads, .ref a0_now_bridges, .ref a0_now_waggons, .ref a0_now_parts, .ref a0_now_settings, .ref a0_now_trip, .int 0])), (a0_now_counts, .inl (E 0, 4, .inl (fun _ => 0))), (a0_refusals, .inl (E 0, 5, .inl (fun _ => 0)))] sz)) 0 0 (va_A [(a0, .inr (6, [.ref a0_now, .ref a0_kept, .int 0, .ref a0_ways, .ref a0_shelves, .ref a0_tape, .ref a0_reader, .ref a0_refusals, .ref a0_bestPack])), (a0_now, .inr (0, [.ref a0_now_counts, .ref a0_now_roads, .ref a0_now_bridges, .ref a0_now_waggons, .ref a0_now_parts, .ref a0_now_settings, .ref a0_now_trip, .int 0])), (a0_now_counts, .inl (E 0, 4, .inl (fun _ => 0))), (a0_refusals, .inl (E 0, 5, .inl (fun _ => 0)))] sz) := by
  refine Met.ofW (cc := cX6_hang) (maxL := 9) (ret := (some .int)) (by decide) rfl ?_
  intro p e s m args below meth c s₁ B hml hv
  obtain ⟨rfl, hsz, hP, hK, hD0, hG⟩ := hv
  have hx := B.exec
  have hb := B.bytes
  have hr := B.returns
  have hts := atoms_spec (ws := (oh_w yX6_hang cX6_hang 9 (some .int))) B.pre
  have htg : ∀ w ∈ oh_t, w.before _ s = true := fun w h => hts w (List.mem_cons_of_mem _ h)
  have hown : s.vm.findClass RX6 = some m.cls := findClass_of_methodNamed B.named
  have hlocks := B.notSynchronized
  subst hsz
  have hD := hD0.self (sz := s.heap.size)
  generalize hAe : va_A [(a0, .inr (6, [.ref a0_now, .ref a0_kept, .int 0, .ref a0_ways, .ref a0_shelves, .ref a0_tape, .ref a0_reader, .ref a0_refusals, .ref a0_bestPack])), (a0_now, .inr (0, [.ref a0_now_counts, .ref a0_now_roads, .ref a0_now_bridges, .ref a0_now_waggons, .ref a0_now_parts, .ref a0_now_settings, .ref a0_now_trip, .int 0])), (a0_now_counts, .inl (E 0, 4, .inl (fun _ => 0))), (a0_refusals, .inl (E 0, 5, .inl (fun _ => 0)))] s.heap.size = A at hD hG ⊢
  have hA : ∀ q : Nat, s.heap.size ≤ q → A q := fun q h => by rw [← hAe]; exact Or.inr h
  have hS : va_S A s.heap s.heap [] := va_S.rf
  have hP : va_P D vwCl [(a0, .inr (6, [.ref a0_now, .ref a0_kept, .int 0, .ref a0_ways, .ref a0_shelves, .ref a0_tape, .ref a0_reader, .ref a0_refusals, .ref a0_bestPack])), (a0_now, .inr (0, [.ref a0_now_counts, .ref a0_now_roads, .ref a0_now_bridges, .ref a0_now_waggons, .ref a0_now_parts, .ref a0_now_settings, .ref a0_now_trip, .int 0])), (a0_now_counts, .inl (E 0, 4, .inl (fun _ => 0))), (a0_refusals, .inl (E 0, 5, .inl (fun _ => 0)))] s.heap := hP
  have hl := lv_entry ([.ref a0, .int v_a, .int v_b, .int v_c, .int v_d]) (n := 9) (Nat.le_of_ble_eq_true rfl)
  rw [lg_entry_eq]
  generalize (lg_sl ([.ref a0, .int v_a, .int v_b, .int v_c, .int v_d]) ++ List.replicate (9 - (lg_sl ([.ref a0, .int v_a, .int v_b, .int v_c, .int v_d])).length) Slot.unset).toArray = ls at hl ⊢
  have hl : lv_has ls 9 [(0, .ref a0), (1, .int v_a), (2, .int v_b), (3, .int v_c), (4, .int v_d)] := hl
  refine lv_aload_n hx hb dX6_hang_0 rfl (lv_at hl 0 rfl) ?_
  refine lv_iload_n hx hb dX6_hang_1 rfl (lv_at hl 1 rfl) ?_
  refine lv_iload_n hx hb dX6_hang_2 rfl (lv_at hl 2 rfl) ?_
  refine lv_iload_n hx hb dX6_hang_3 rfl (lv_at hl 3 rfl) ?_
  refine lv_iload hx hb dX6_hang_4 (lv_at hl 4 rfl) ?_
  refine oh_pV (As := [.int v_a, .int v_b, .int v_c, .int v_d]) (rest := []) (v := 0) ⟨hx, hb, hml, hown, htg⟩ (c_X6_isJourney l D E G a0 v_a v_b v_c v_d a0_now a0_kept a0_ways a0_shelves a0_tape a0_reader a0_refusals a0_bestPack a0_now_counts a0_now_roads a0_now_bridges a0_now_waggons a0_now_parts a0_now_settings a0_now_trip) (cwV 4 htg (oh_gV q_776 q_778 q_17 q_66 q_779) rfl rfl rfl pdVX6_isJourney ⟨Nat.le_of_ble_eq_true rfl, Nat.le_of_ble_eq_true rfl⟩) hK (hP.sub (ws' := [(a0, .inr (6, [.ref a0_now, .ref a0_kept, .int 0, .ref a0_ways, .ref a0_shelves, .ref a0_tape, .ref a0_reader, .ref a0_refusals, .ref a0_bestPack])), (a0_now, .inr (0, [.ref a0_now_counts, .ref a0_now_roads, .ref a0_now_bridges, .ref a0_now_waggons, .ref a0_now_parts, .ref a0_now_settings, .ref a0_now_trip, .int 0])), (a0_now_counts, .inl (E 0, 4, .inl (fun _ => 0)))]) [0, 1, 2] rfl) hG hS (va_recv hK hP (ci := 6) (q0 := 0) rfl rfl) rfl hl.1 rfl (Nat.le_of_ble_eq_true rfl) dX6_hang_6 ⟨Nat.le_of_ble_eq_true rfl, Nat.le_of_ble_eq_true rfl⟩ ?_
  refine lv_if_ne (tgt := 19) hx hb dX6_hang_9 (by decide) (fun c => absurd (show (0 : Int32) = 0 from by decide) c) (fun _ => ?_)
  refine lv_aload_n hx hb dX6_hang_12 rfl (lv_at hl 0 rfl) ?_
  refine lv_bipush (v := (-2)) hx hb dX6_hang_13 (by decide) ?_
  refine oh_mV (As := [.int (-2)]) (rest := []) (wr := [(a0_now, .inr (0, [.ref a0_now_counts, .ref a0_now_roads, .ref a0_now_bridges, .ref a0_now_waggons, .ref a0_now_parts, .ref a0_now_settings, .ref a0_now_trip, .int 0])), (a0_now_counts, .inl (E 0, 4, .inl (fun _ => 0)))]) ⟨hx, hb, hml, hown, htg⟩ (c_X6_refuse l D E G s.heap.size a0 (-2) a0_now a0_kept a0_ways a0_shelves a0_tape a0_reader a0_refusals a0_bestPack) (cwV 1 htg (oh_gV q_296 q_298 q_0 q_66 q_299) rfl rfl rfl pdVX6_refuse ⟨Nat.le_of_ble_eq_true rfl, Nat.le_of_ble_eq_true rfl⟩) hK hP hD hG hS hA [0, 3] [1, 2] rfl rfl (by decide) (by decide) (by decide) (va_recv hK hP (ci := 6) (q0 := 0) rfl rfl) rfl hl.1 rfl (Nat.le_of_ble_eq_true rfl) dX6_hang_15 ⟨Nat.le_of_ble_eq_true rfl, Nat.le_of_ble_eq_true rfl⟩ (fun r_1 u H locs hw hP hD hS => ?_)
  subst hw
  have hP : va_P D vwCl [(a0_now, .inr (0, [.ref a0_now_counts, .ref a0_now_roads, .ref a0_now_bridges, .ref a0_now_waggons, .ref a0_now_parts, .ref a0_now_settings, .ref a0_now_trip, .int 0])), (a0_now_counts, .inl (E 0, 4, .inl (fun _ => 0))), (a0, .inr (6, [.ref a0_now, .ref a0_kept, .int 0, .ref a0_ways, .ref a0_shelves, .ref a0_tape, .ref a0_reader, .ref a0_refusals, .ref a0_bestPack]))] H := hP
  have hD : va_D A [(a0_now, .inr (0, [.ref a0_now_counts, .ref a0_now_roads, .ref a0_now_bridges, .ref a0_now_waggons, .ref a0_now_parts, .ref a0_now_settings, .ref a0_now_trip, .int 0])), (a0_now_counts, .inl (E 0, 4, .inl (fun _ => 0))), (a0, .inr (6, [.ref a0_now, .ref a0_kept, .int 0, .ref a0_ways, .ref a0_shelves, .ref a0_tape, .ref a0_reader, .ref a0_refusals, .ref a0_bestPack]))] := hD
  refine W.widen (k := 0) (n := 0) (Nat.le_refl _) (Nat.le_refl _) ?_
  refine W.widen (k := 0) (n := 0) (Nat.le_of_ble_eq_true rfl) (Nat.le_of_ble_eq_true rfl) ?_
  exact W.iret (v := (-2)) hx hb hr (fun t ht hW => ⟨⟨(-2), (), rfl, rfl, ⟨by rw [ht]; exact hP.sub [] rfl, hD.sub [] (by decide) rfl⟩⟩, hS.F ht⟩) hS.2.2 dX6_hang_18
set_option maxHeartbeats 4000000 in
set_option maxRecDepth 100000 in
theorem c_X6_fewest (l : Launch) (D : va_G) (E : Nat → ClassId) (G : Nat → Nat) (sz : Nat) (a0 : Nat) (v_a : Int32) (v_b : Int32) (v_c : Int32) (a0_now : Nat) (a0_kept : Nat) (a0_ways : Nat) (a0_shelves : Nat) (a0_tape : Nat) (a0_reader : Nat) (a0_refusals : Nat) (a0_bestPack : Nat) (a0_now_counts : Nat) (a0_now_roads : Nat) (a0_now_bridges : Nat) (a0_now_waggons : Nat) (a0_now_parts : Nat) (a0_now_settings : Nat) (a0_now_trip : Nat) : Met l yX6_fewest (oh_w yX6_fewest cX6_fewest 7 (some .int)) ({ frames := 2, cells := 0, slots := 0, locals := 44 }) (oh_Pm D E G [.ref a0, .int v_a, .int v_b, .int v_c] [(a0, .inr (6, [.ref a0_now, .ref a0_kept, .int 0, .ref a0_ways, .ref a0_shelves, .ref a0_tape, .ref a0_reader, .ref a0_refusals, .ref a0_bestPack])), (a0_now, .inr (0, [.ref a0_now_counts, .ref a0_now_roads, .ref a0_now_bridges, .ref a0_now_waggons, .ref a0_now_parts, .ref a0_now_settings, .ref a0_now_trip, .int 0])), (a0_now_counts, .inl (E 0, 4, .inl (fun _ => 0))), (a0_refusals, .inl (E 0, 5, .inl (fun _ => 0)))] sz) (va_Qi (fun r (_ : Unit) => r = (-2)) (oh_B D (va_A [(a0, .inr (6, [.ref a0_now, .ref a0_kept, .int 0, .ref a0_ways, .ref a0_shelves, .ref a0_tape, .ref a0_reader, .ref a0_refusals, .ref a0_bestPack])), (a0_now, .inr (0, [.ref a0_now_counts, .ref a0_now_roads, .ref a0_now_bridges, .ref a0_now_waggons, .ref a0_now_parts, .ref a0_now_settings, .ref a0_now_trip, .int 0])), (a0_now_counts, .inl (E 0, 4, .inl (fun _ => 0))), (a0_refusals, .inl (E 0, 5, .inl (fun _ => 0)))] sz) (fun _ => [])) (va_A [(a0, .inr (6, [.ref a0_now, .ref a0_kept, .int 0, .ref a0_ways, .ref a0_shelves, .ref a0_tape, .ref a0_reader, .ref a0_refusals, .ref a0_bestPack])), (a0_now, .inr (0, [.ref a0_now_counts, .ref a0_now_roads, .ref a0_now_bridges, .ref a0_now_waggons, .ref a0_now_parts, .ref a0_now_settings, .ref a0_now_trip, .int 0])), (a0_now_counts, .inl (E 0, 4, .inl (fun _ => 0))), (a0_refusals, .inl (E 0, 5, .inl (fun _ => 0)))] sz)) 0 0 (va_A [(a0, .inr (6, [.ref a0_now, .ref a0_kept, .int 0, .ref a0_ways, .ref a0_shelves, .ref a0_tape, .ref a0_reader, .ref a0_refusals, .ref a0_bestPack])), (a0_now, .inr (0, [.ref a0_now_counts, .ref a0_now_roads, .ref a0_now_bridges, .ref a0_now_waggons, .ref a0_now_parts, .ref a0_now_settings, .ref a0_now_trip, .int 0])), (a0_now_counts, .inl (E 0, 4, .inl (fun _ => 0))), (a0_refusals, .inl (E 0, 5, .inl (fun _ => 0)))] sz) := by
  refine Met.ofW (cc := cX6_fewest) (maxL := 7) (ret := (some .int)) (by decide) rfl ?_
  intro p e s m args below meth c s₁ B hml hv
  obtain ⟨rfl, hsz, hP, hK, hD0, hG⟩ := hv
  have hx := B.exec
  have hb := B.bytes
  have hr := B.returns
  have hts := atoms_spec (ws := (oh_w yX6_fewest cX6_fewest 7 (some .int))) B.pre
  have htg : ∀ w ∈ oh_t, w.before _ s = true := fun w h => hts w (List.mem_cons_of_mem _ h)
  have hown : s.vm.findClass RX6 = some m.cls := findClass_of_methodNamed B.named
  have hlocks := B.notSynchronized
  subst hsz
  have hD := hD0.self (sz := s.heap.size)
  generalize hAe : va_A [(a0, .inr (6, [.ref a0_now, .ref a0_kept, .int 0, .ref a0_ways, .ref a0_shelves, .ref a0_tape, .ref a0_reader, .ref a0_refusals, .ref a0_bestPack])), (a0_now, .inr (0, [.ref a0_now_counts, .ref a0_now_roads, .ref a0_now_bridges, .ref a0_now_waggons, .ref a0_now_parts, .ref a0_now_settings, .ref a0_now_trip, .int 0])), (a0_now_counts, .inl (E 0, 4, .inl (fun _ => 0))), (a0_refusals, .inl (E 0, 5, .inl (fun _ => 0)))] s.heap.size = A at hD hG ⊢
  have hA : ∀ q : Nat, s.heap.size ≤ q → A q := fun q h => by rw [← hAe]; exact Or.inr h
  have hS : va_S A s.heap s.heap [] := va_S.rf
  have hP : va_P D vwCl [(a0, .inr (6, [.ref a0_now, .ref a0_kept, .int 0, .ref a0_ways, .ref a0_shelves, .ref a0_tape, .ref a0_reader, .ref a0_refusals, .ref a0_bestPack])), (a0_now, .inr (0, [.ref a0_now_counts, .ref a0_now_roads, .ref a0_now_bridges, .ref a0_now_waggons, .ref a0_now_parts, .ref a0_now_settings, .ref a0_now_trip, .int 0])), (a0_now_counts, .inl (E 0, 4, .inl (fun _ => 0))), (a0_refusals, .inl (E 0, 5, .inl (fun _ => 0)))] s.heap := hP
  have hl := lv_entry ([.ref a0, .int v_a, .int v_b, .int v_c]) (n := 7) (Nat.le_of_ble_eq_true rfl)
  rw [lg_entry_eq]
  generalize (lg_sl ([.ref a0, .int v_a, .int v_b, .int v_c]) ++ List.replicate (7 - (lg_sl ([.ref a0, .int v_a, .int v_b, .int v_c])).length) Slot.unset).toArray = ls at hl ⊢
  have hl : lv_has ls 7 [(0, .ref a0), (1, .int v_a), (2, .int v_b), (3, .int v_c)] := hl
  refine lv_aload_n hx hb dX6_fewest_0 rfl (lv_at hl 0 rfl) ?_
  refine lv_iload_n hx hb dX6_fewest_1 rfl (lv_at hl 1 rfl) ?_
  refine oh_pV (As := [.int v_a]) (rest := []) (v := 0) ⟨hx, hb, hml, hown, htg⟩ (k_X6_isWaggon l D E G a0 v_a a0_now a0_kept a0_ways a0_shelves a0_tape a0_reader a0_refusals a0_bestPack a0_now_counts a0_now_roads a0_now_bridges a0_now_waggons a0_now_parts a0_now_settings a0_now_trip) (cwV 1 htg (oh_gV q_679 q_681 q_15 q_66 q_682) rfl rfl rfl pdVX6_isWaggon ⟨Nat.le_of_ble_eq_true rfl, Nat.le_of_ble_eq_true rfl⟩) hK (hP.sub (ws' := [(a0, .inr (6, [.ref a0_now, .ref a0_kept, .int 0, .ref a0_ways, .ref a0_shelves, .ref a0_tape, .ref a0_reader, .ref a0_refusals, .ref a0_bestPack])), (a0_now, .inr (0, [.ref a0_now_counts, .ref a0_now_roads, .ref a0_now_bridges, .ref a0_now_waggons, .ref a0_now_parts, .ref a0_now_settings, .ref a0_now_trip, .int 0])), (a0_now_counts, .inl (E 0, 4, .inl (fun _ => 0)))]) [0, 1, 2] rfl) hG hS (va_recv hK hP (ci := 6) (q0 := 0) rfl rfl) rfl hl.1 rfl (Nat.le_of_ble_eq_true rfl) dX6_fewest_2 ⟨Nat.le_of_ble_eq_true rfl, Nat.le_of_ble_eq_true rfl⟩ ?_
  refine lv_if_eq (tgt := 22) hx hb dX6_fewest_5 (by decide) (fun _ => ?_) (fun c => absurd (show (0 : Int32) = 0 from by decide) c)
  refine lv_aload_n hx hb dX6_fewest_22 rfl (lv_at hl 0 rfl) ?_
  refine lv_bipush (v := (-2)) hx hb dX6_fewest_23 (by decide) ?_
  refine oh_mV (As := [.int (-2)]) (rest := []) (wr := [(a0_now, .inr (0, [.ref a0_now_counts, .ref a0_now_roads, .ref a0_now_bridges, .ref a0_now_waggons, .ref a0_now_parts, .ref a0_now_settings, .ref a0_now_trip, .int 0])), (a0_now_counts, .inl (E 0, 4, .inl (fun _ => 0)))]) ⟨hx, hb, hml, hown, htg⟩ (c_X6_refuse l D E G s.heap.size a0 (-2) a0_now a0_kept a0_ways a0_shelves a0_tape a0_reader a0_refusals a0_bestPack) (cwV 1 htg (oh_gV q_296 q_298 q_0 q_66 q_299) rfl rfl rfl pdVX6_refuse ⟨Nat.le_of_ble_eq_true rfl, Nat.le_of_ble_eq_true rfl⟩) hK hP hD hG hS hA [0, 3] [1, 2] rfl rfl (by decide) (by decide) (by decide) (va_recv hK hP (ci := 6) (q0 := 0) rfl rfl) rfl hl.1 rfl (Nat.le_of_ble_eq_true rfl) dX6_fewest_25 ⟨Nat.le_of_ble_eq_true rfl, Nat.le_of_ble_eq_true rfl⟩ (fun r_1 u H locs hw hP hD hS => ?_)
  subst hw
  have hP : va_P D vwCl [(a0_now, .inr (0, [.ref a0_now_counts, .ref a0_now_roads, .ref a0_now_bridges, .ref a0_now_waggons, .ref a0_now_parts, .ref a0_now_settings, .ref a0_now_trip, .int 0])), (a0_now_counts, .inl (E 0, 4, .inl (fun _ => 0))), (a0, .inr (6, [.ref a0_now, .ref a0_kept, .int 0, .ref a0_ways, .ref a0_shelves, .ref a0_tape, .ref a0_reader, .ref a0_refusals, .ref a0_bestPack]))] H := hP
  have hD : va_D A [(a0_now, .inr (0, [.ref a0_now_counts, .ref a0_now_roads, .ref a0_now_bridges, .ref a0_now_waggons, .ref a0_now_parts, .ref a0_now_settings, .ref a0_now_trip, .int 0])), (a0_now_counts, .inl (E 0, 4, .inl (fun _ => 0))), (a0, .inr (6, [.ref a0_now, .ref a0_kept, .int 0, .ref a0_ways, .ref a0_shelves, .ref a0_tape, .ref a0_reader, .ref a0_refusals, .ref a0_bestPack]))] := hD
  refine W.widen (k := 0) (n := 0) (Nat.le_refl _) (Nat.le_refl _) ?_
  refine W.widen (k := 0) (n := 0) (Nat.le_of_ble_eq_true rfl) (Nat.le_of_ble_eq_true rfl) ?_
  exact W.iret (v := (-2)) hx hb hr (fun t ht hW => ⟨⟨(-2), (), rfl, rfl, ⟨by rw [ht]; exact hP.sub [] rfl, hD.sub [] (by decide) rfl⟩⟩, hS.F ht⟩) hS.2.2 dX6_fewest_28
set_option maxHeartbeats 4000000 in
set_option maxRecDepth 100000 in
theorem c_X6_most (l : Launch) (D : va_G) (E : Nat → ClassId) (G : Nat → Nat) (sz : Nat) (a0 : Nat) (v_a : Int32) (v_b : Int32) (v_c : Int32) (a0_now : Nat) (a0_kept : Nat) (a0_ways : Nat) (a0_shelves : Nat) (a0_tape : Nat) (a0_reader : Nat) (a0_refusals : Nat) (a0_bestPack : Nat) (a0_now_counts : Nat) (a0_now_roads : Nat) (a0_now_bridges : Nat) (a0_now_waggons : Nat) (a0_now_parts : Nat) (a0_now_settings : Nat) (a0_now_trip : Nat) : Met l yX6_most (oh_w yX6_most cX6_most 6 (some .int)) ({ frames := 2, cells := 0, slots := 0, locals := 44 }) (oh_Pm D E G [.ref a0, .int v_a, .int v_b, .int v_c] [(a0, .inr (6, [.ref a0_now, .ref a0_kept, .int 0, .ref a0_ways, .ref a0_shelves, .ref a0_tape, .ref a0_reader, .ref a0_refusals, .ref a0_bestPack])), (a0_now, .inr (0, [.ref a0_now_counts, .ref a0_now_roads, .ref a0_now_bridges, .ref a0_now_waggons, .ref a0_now_parts, .ref a0_now_settings, .ref a0_now_trip, .int 0])), (a0_now_counts, .inl (E 0, 4, .inl (fun _ => 0))), (a0_refusals, .inl (E 0, 5, .inl (fun _ => 0)))] sz) (va_Qi (fun r (_ : Unit) => r = (-2)) (oh_B D (va_A [(a0, .inr (6, [.ref a0_now, .ref a0_kept, .int 0, .ref a0_ways, .ref a0_shelves, .ref a0_tape, .ref a0_reader, .ref a0_refusals, .ref a0_bestPack])), (a0_now, .inr (0, [.ref a0_now_counts, .ref a0_now_roads, .ref a0_now_bridges, .ref a0_now_waggons, .ref a0_now_parts, .ref a0_now_settings, .ref a0_now_trip, .int 0])), (a0_now_counts, .inl (E 0, 4, .inl (fun _ => 0))), (a0_refusals, .inl (E 0, 5, .inl (fun _ => 0)))] sz) (fun _ => [])) (va_A [(a0, .inr (6, [.ref a0_now, .ref a0_kept, .int 0, .ref a0_ways, .ref a0_shelves, .ref a0_tape, .ref a0_reader, .ref a0_refusals, .ref a0_bestPack])), (a0_now, .inr (0, [.ref a0_now_counts, .ref a0_now_roads, .ref a0_now_bridges, .ref a0_now_waggons, .ref a0_now_parts, .ref a0_now_settings, .ref a0_now_trip, .int 0])), (a0_now_counts, .inl (E 0, 4, .inl (fun _ => 0))), (a0_refusals, .inl (E 0, 5, .inl (fun _ => 0)))] sz)) 0 0 (va_A [(a0, .inr (6, [.ref a0_now, .ref a0_kept, .int 0, .ref a0_ways, .ref a0_shelves, .ref a0_tape, .ref a0_reader, .ref a0_refusals, .ref a0_bestPack])), (a0_now, .inr (0, [.ref a0_now_counts, .ref a0_now_roads, .ref a0_now_bridges, .ref a0_now_waggons, .ref a0_now_parts, .ref a0_now_settings, .ref a0_now_trip, .int 0])), (a0_now_counts, .inl (E 0, 4, .inl (fun _ => 0))), (a0_refusals, .inl (E 0, 5, .inl (fun _ => 0)))] sz) := by
  refine Met.ofW (cc := cX6_most) (maxL := 6) (ret := (some .int)) (by decide) rfl ?_
  intro p e s m args below meth c s₁ B hml hv
  obtain ⟨rfl, hsz, hP, hK, hD0, hG⟩ := hv
  have hx := B.exec
  have hb := B.bytes
  have hr := B.returns
  have hts := atoms_spec (ws := (oh_w yX6_most cX6_most 6 (some .int))) B.pre
  have htg : ∀ w ∈ oh_t, w.before _ s = true := fun w h => hts w (List.mem_cons_of_mem _ h)
  have hown : s.vm.findClass RX6 = some m.cls := findClass_of_methodNamed B.named
  have hlocks := B.notSynchronized
  subst hsz
  have hD := hD0.self (sz := s.heap.size)
  generalize hAe : va_A [(a0, .inr (6, [.ref a0_now, .ref a0_kept, .int 0, .ref a0_ways, .ref a0_shelves, .ref a0_tape, .ref a0_reader, .ref a0_refusals, .ref a0_bestPack])), (a0_now, .inr (0, [.ref a0_now_counts, .ref a0_now_roads, .ref a0_now_bridges, .ref a0_now_waggons, .ref a0_now_parts, .ref a0_now_settings, .ref a0_now_trip, .int 0])), (a0_now_counts, .inl (E 0, 4, .inl (fun _ => 0))), (a0_refusals, .inl (E 0, 5, .inl (fun _ => 0)))] s.heap.size = A at hD hG ⊢
  have hA : ∀ q : Nat, s.heap.size ≤ q → A q := fun q h => by rw [← hAe]; exact Or.inr h
  have hS : va_S A s.heap s.heap [] := va_S.rf
  have hP : va_P D vwCl [(a0, .inr (6, [.ref a0_now, .ref a0_kept, .int 0, .ref a0_ways, .ref a0_shelves, .ref a0_tape, .ref a0_reader, .ref a0_refusals, .ref a0_bestPack])), (a0_now, .inr (0, [.ref a0_now_counts, .ref a0_now_roads, .ref a0_now_bridges, .ref a0_now_waggons, .ref a0_now_parts, .ref a0_now_settings, .ref a0_now_trip, .int 0])), (a0_now_counts, .inl (E 0, 4, .inl (fun _ => 0))), (a0_refusals, .inl (E 0, 5, .inl (fun _ => 0)))] s.heap := hP
  have hl := lv_entry ([.ref a0, .int v_a, .int v_b, .int v_c]) (n := 6) (Nat.le_of_ble_eq_true rfl)
  rw [lg_entry_eq]
  generalize (lg_sl ([.ref a0, .int v_a, .int v_b, .int v_c]) ++ List.replicate (6 - (lg_sl ([.ref a0, .int v_a, .int v_b, .int v_c])).length) Slot.unset).toArray = ls at hl ⊢
  have hl : lv_has ls 6 [(0, .ref a0), (1, .int v_a), (2, .int v_b), (3, .int v_c)] := hl
  refine lv_aload_n hx hb dX6_most_0 rfl (lv_at hl 0 rfl) ?_
  refine lv_iload_n hx hb dX6_most_1 rfl (lv_at hl 1 rfl) ?_
  refine oh_pV (As := [.int v_a]) (rest := []) (v := 0) ⟨hx, hb, hml, hown, htg⟩ (k_X6_isWaggon l D E G a0 v_a a0_now a0_kept a0_ways a0_shelves a0_tape a0_reader a0_refusals a0_bestPack a0_now_counts a0_now_roads a0_now_bridges a0_now_waggons a0_now_parts a0_now_settings a0_now_trip) (cwV 1 htg (oh_gV q_679 q_681 q_15 q_66 q_682) rfl rfl rfl pdVX6_isWaggon ⟨Nat.le_of_ble_eq_true rfl, Nat.le_of_ble_eq_true rfl⟩) hK (hP.sub (ws' := [(a0, .inr (6, [.ref a0_now, .ref a0_kept, .int 0, .ref a0_ways, .ref a0_shelves, .ref a0_tape, .ref a0_reader, .ref a0_refusals, .ref a0_bestPack])), (a0_now, .inr (0, [.ref a0_now_counts, .ref a0_now_roads, .ref a0_now_bridges, .ref a0_now_waggons, .ref a0_now_parts, .ref a0_now_settings, .ref a0_now_trip, .int 0])), (a0_now_counts, .inl (E 0, 4, .inl (fun _ => 0)))]) [0, 1, 2] rfl) hG hS (va_recv hK hP (ci := 6) (q0 := 0) rfl rfl) rfl hl.1 rfl (Nat.le_of_ble_eq_true rfl) dX6_most_2 ⟨Nat.le_of_ble_eq_true rfl, Nat.le_of_ble_eq_true rfl⟩ ?_
  refine lv_if_eq (tgt := 22) hx hb dX6_most_5 (by decide) (fun _ => ?_) (fun c => absurd (show (0 : Int32) = 0 from by decide) c)
  refine lv_aload_n hx hb dX6_most_22 rfl (lv_at hl 0 rfl) ?_
  refine lv_bipush (v := (-2)) hx hb dX6_most_23 (by decide) ?_
  refine oh_mV (As := [.int (-2)]) (rest := []) (wr := [(a0_now, .inr (0, [.ref a0_now_counts, .ref a0_now_roads, .ref a0_now_bridges, .ref a0_now_waggons, .ref a0_now_parts, .ref a0_now_settings, .ref a0_now_trip, .int 0])), (a0_now_counts, .inl (E 0, 4, .inl (fun _ => 0)))]) ⟨hx, hb, hml, hown, htg⟩ (c_X6_refuse l D E G s.heap.size a0 (-2) a0_now a0_kept a0_ways a0_shelves a0_tape a0_reader a0_refusals a0_bestPack) (cwV 1 htg (oh_gV q_296 q_298 q_0 q_66 q_299) rfl rfl rfl pdVX6_refuse ⟨Nat.le_of_ble_eq_true rfl, Nat.le_of_ble_eq_true rfl⟩) hK hP hD hG hS hA [0, 3] [1, 2] rfl rfl (by decide) (by decide) (by decide) (va_recv hK hP (ci := 6) (q0 := 0) rfl rfl) rfl hl.1 rfl (Nat.le_of_ble_eq_true rfl) dX6_most_25 ⟨Nat.le_of_ble_eq_true rfl, Nat.le_of_ble_eq_true rfl⟩ (fun r_1 u H locs hw hP hD hS => ?_)
  subst hw
  have hP : va_P D vwCl [(a0_now, .inr (0, [.ref a0_now_counts, .ref a0_now_roads, .ref a0_now_bridges, .ref a0_now_waggons, .ref a0_now_parts, .ref a0_now_settings, .ref a0_now_trip, .int 0])), (a0_now_counts, .inl (E 0, 4, .inl (fun _ => 0))), (a0, .inr (6, [.ref a0_now, .ref a0_kept, .int 0, .ref a0_ways, .ref a0_shelves, .ref a0_tape, .ref a0_reader, .ref a0_refusals, .ref a0_bestPack]))] H := hP
  have hD : va_D A [(a0_now, .inr (0, [.ref a0_now_counts, .ref a0_now_roads, .ref a0_now_bridges, .ref a0_now_waggons, .ref a0_now_parts, .ref a0_now_settings, .ref a0_now_trip, .int 0])), (a0_now_counts, .inl (E 0, 4, .inl (fun _ => 0))), (a0, .inr (6, [.ref a0_now, .ref a0_kept, .int 0, .ref a0_ways, .ref a0_shelves, .ref a0_tape, .ref a0_reader, .ref a0_refusals, .ref a0_bestPack]))] := hD
  refine W.widen (k := 0) (n := 0) (Nat.le_refl _) (Nat.le_refl _) ?_
  refine W.widen (k := 0) (n := 0) (Nat.le_of_ble_eq_true rfl) (Nat.le_of_ble_eq_true rfl) ?_
  exact W.iret (v := (-2)) hx hb hr (fun t ht hW => ⟨⟨(-2), (), rfl, rfl, ⟨by rw [ht]; exact hP.sub [] rfl, hD.sub [] (by decide) rfl⟩⟩, hS.F ht⟩) hS.2.2 dX6_most_28
set_option maxHeartbeats 4000000 in
set_option maxRecDepth 100000 in
theorem c_X6_begin (l : Launch) (D : va_G) (E : Nat → ClassId) (G : Nat → Nat) (sz : Nat) (a0 : Nat) (v_a : Int32) (v_b : Int32) (v_c : Int32) (v_d : Int32) (a0_now : Nat) (a0_kept : Nat) (a0_ways : Nat) (a0_shelves : Nat) (a0_tape : Nat) (a0_reader : Nat) (a0_refusals : Nat) (a0_bestPack : Nat) (a0_now_counts : Nat) (a0_now_roads : Nat) (a0_now_bridges : Nat) (a0_now_waggons : Nat) (a0_now_parts : Nat) (a0_now_settings : Nat) (a0_now_trip : Nat) : Met l yX6_begin (oh_w yX6_begin cX6_begin 5 (some .int)) ({ frames := 4, cells := 0, slots := 0, locals := 89 }) (oh_Pm D E G [.ref a0, .int v_a, .int v_b, .int v_c, .int v_d] [(a0, .inr (6, [.ref a0_now, .ref a0_kept, .int 0, .ref a0_ways, .ref a0_shelves, .ref a0_tape, .ref a0_reader, .ref a0_refusals, .ref a0_bestPack])), (a0_now, .inr (0, [.ref a0_now_counts, .ref a0_now_roads, .ref a0_now_bridges, .ref a0_now_waggons, .ref a0_now_parts, .ref a0_now_settings, .ref a0_now_trip, .int 0])), (a0_now_counts, .inl (E 0, 4, .inl (fun _ => 0))), (a0_refusals, .inl (E 0, 5, .inl (fun _ => 0)))] sz) (va_Qi (fun r (_ : Unit) => r = (-2)) (oh_B D (va_A [(a0, .inr (6, [.ref a0_now, .ref a0_kept, .int 0, .ref a0_ways, .ref a0_shelves, .ref a0_tape, .ref a0_reader, .ref a0_refusals, .ref a0_bestPack])), (a0_now, .inr (0, [.ref a0_now_counts, .ref a0_now_roads, .ref a0_now_bridges, .ref a0_now_waggons, .ref a0_now_parts, .ref a0_now_settings, .ref a0_now_trip, .int 0])), (a0_now_counts, .inl (E 0, 4, .inl (fun _ => 0))), (a0_refusals, .inl (E 0, 5, .inl (fun _ => 0)))] sz) (fun _ => [])) (va_A [(a0, .inr (6, [.ref a0_now, .ref a0_kept, .int 0, .ref a0_ways, .ref a0_shelves, .ref a0_tape, .ref a0_reader, .ref a0_refusals, .ref a0_bestPack])), (a0_now, .inr (0, [.ref a0_now_counts, .ref a0_now_roads, .ref a0_now_bridges, .ref a0_now_waggons, .ref a0_now_parts, .ref a0_now_settings, .ref a0_now_trip, .int 0])), (a0_now_counts, .inl (E 0, 4, .inl (fun _ => 0))), (a0_refusals, .inl (E 0, 5, .inl (fun _ => 0)))] sz)) 0 0 (va_A [(a0, .inr (6, [.ref a0_now, .ref a0_kept, .int 0, .ref a0_ways, .ref a0_shelves, .ref a0_tape, .ref a0_reader, .ref a0_refusals, .ref a0_bestPack])), (a0_now, .inr (0, [.ref a0_now_counts, .ref a0_now_roads, .ref a0_now_bridges, .ref a0_now_waggons, .ref a0_now_parts, .ref a0_now_settings, .ref a0_now_trip, .int 0])), (a0_now_counts, .inl (E 0, 4, .inl (fun _ => 0))), (a0_refusals, .inl (E 0, 5, .inl (fun _ => 0)))] sz) := by
  refine Met.ofW (cc := cX6_begin) (maxL := 5) (ret := (some .int)) (by decide) rfl ?_
  intro p e s m args below meth c s₁ B hml hv
  obtain ⟨rfl, hsz, hP, hK, hD0, hG⟩ := hv
  have hx := B.exec
  have hb := B.bytes
  have hr := B.returns
  have hts := atoms_spec (ws := (oh_w yX6_begin cX6_begin 5 (some .int))) B.pre
  have htg : ∀ w ∈ oh_t, w.before _ s = true := fun w h => hts w (List.mem_cons_of_mem _ h)
  have hown : s.vm.findClass RX6 = some m.cls := findClass_of_methodNamed B.named
  have hlocks := B.notSynchronized
  subst hsz
  have hD := hD0.self (sz := s.heap.size)
  generalize hAe : va_A [(a0, .inr (6, [.ref a0_now, .ref a0_kept, .int 0, .ref a0_ways, .ref a0_shelves, .ref a0_tape, .ref a0_reader, .ref a0_refusals, .ref a0_bestPack])), (a0_now, .inr (0, [.ref a0_now_counts, .ref a0_now_roads, .ref a0_now_bridges, .ref a0_now_waggons, .ref a0_now_parts, .ref a0_now_settings, .ref a0_now_trip, .int 0])), (a0_now_counts, .inl (E 0, 4, .inl (fun _ => 0))), (a0_refusals, .inl (E 0, 5, .inl (fun _ => 0)))] s.heap.size = A at hD hG ⊢
  have hA : ∀ q : Nat, s.heap.size ≤ q → A q := fun q h => by rw [← hAe]; exact Or.inr h
  have hS : va_S A s.heap s.heap [] := va_S.rf
  have hP : va_P D vwCl [(a0, .inr (6, [.ref a0_now, .ref a0_kept, .int 0, .ref a0_ways, .ref a0_shelves, .ref a0_tape, .ref a0_reader, .ref a0_refusals, .ref a0_bestPack])), (a0_now, .inr (0, [.ref a0_now_counts, .ref a0_now_roads, .ref a0_now_bridges, .ref a0_now_waggons, .ref a0_now_parts, .ref a0_now_settings, .ref a0_now_trip, .int 0])), (a0_now_counts, .inl (E 0, 4, .inl (fun _ => 0))), (a0_refusals, .inl (E 0, 5, .inl (fun _ => 0)))] s.heap := hP
  have hl := lv_entry ([.ref a0, .int v_a, .int v_b, .int v_c, .int v_d]) (n := 5) (Nat.le_of_ble_eq_true rfl)
  rw [lg_entry_eq]
  generalize (lg_sl ([.ref a0, .int v_a, .int v_b, .int v_c, .int v_d]) ++ List.replicate (5 - (lg_sl ([.ref a0, .int v_a, .int v_b, .int v_c, .int v_d])).length) Slot.unset).toArray = ls at hl ⊢
  have hl : lv_has ls 5 [(0, .ref a0), (1, .int v_a), (2, .int v_b), (3, .int v_c), (4, .int v_d)] := hl
  refine lv_aload_n hx hb dX6_begin_0 rfl (lv_at hl 0 rfl) ?_
  refine lv_iload_n hx hb dX6_begin_1 rfl (lv_at hl 1 rfl) ?_
  refine lv_iload_n hx hb dX6_begin_2 rfl (lv_at hl 2 rfl) ?_
  refine lv_iload_n hx hb dX6_begin_3 rfl (lv_at hl 3 rfl) ?_
  refine lv_iload hx hb dX6_begin_4 (lv_at hl 4 rfl) ?_
  refine oh_pV (As := [.int v_a, .int v_b, .int v_c, .int v_d]) (rest := []) (v := 0) ⟨hx, hb, hml, hown, htg⟩ (c_X6_isJourney l D E G a0 v_a v_b v_c v_d a0_now a0_kept a0_ways a0_shelves a0_tape a0_reader a0_refusals a0_bestPack a0_now_counts a0_now_roads a0_now_bridges a0_now_waggons a0_now_parts a0_now_settings a0_now_trip) (cwV 4 htg (oh_gV q_776 q_778 q_17 q_66 q_779) rfl rfl rfl pdVX6_isJourney ⟨Nat.le_of_ble_eq_true rfl, Nat.le_of_ble_eq_true rfl⟩) hK (hP.sub (ws' := [(a0, .inr (6, [.ref a0_now, .ref a0_kept, .int 0, .ref a0_ways, .ref a0_shelves, .ref a0_tape, .ref a0_reader, .ref a0_refusals, .ref a0_bestPack])), (a0_now, .inr (0, [.ref a0_now_counts, .ref a0_now_roads, .ref a0_now_bridges, .ref a0_now_waggons, .ref a0_now_parts, .ref a0_now_settings, .ref a0_now_trip, .int 0])), (a0_now_counts, .inl (E 0, 4, .inl (fun _ => 0)))]) [0, 1, 2] rfl) hG hS (va_recv hK hP (ci := 6) (q0 := 0) rfl rfl) rfl hl.1 rfl (Nat.le_of_ble_eq_true rfl) dX6_begin_6 ⟨Nat.le_of_ble_eq_true rfl, Nat.le_of_ble_eq_true rfl⟩ ?_
  refine lv_if_ne (tgt := 19) hx hb dX6_begin_9 (by decide) (fun c => absurd (show (0 : Int32) = 0 from by decide) c) (fun _ => ?_)
  refine lv_aload_n hx hb dX6_begin_12 rfl (lv_at hl 0 rfl) ?_
  refine lv_bipush (v := (-2)) hx hb dX6_begin_13 (by decide) ?_
  refine oh_mV (As := [.int (-2)]) (rest := []) (wr := [(a0_now, .inr (0, [.ref a0_now_counts, .ref a0_now_roads, .ref a0_now_bridges, .ref a0_now_waggons, .ref a0_now_parts, .ref a0_now_settings, .ref a0_now_trip, .int 0])), (a0_now_counts, .inl (E 0, 4, .inl (fun _ => 0)))]) ⟨hx, hb, hml, hown, htg⟩ (c_X6_refuse l D E G s.heap.size a0 (-2) a0_now a0_kept a0_ways a0_shelves a0_tape a0_reader a0_refusals a0_bestPack) (cwV 1 htg (oh_gV q_296 q_298 q_0 q_66 q_299) rfl rfl rfl pdVX6_refuse ⟨Nat.le_of_ble_eq_true rfl, Nat.le_of_ble_eq_true rfl⟩) hK hP hD hG hS hA [0, 3] [1, 2] rfl rfl (by decide) (by decide) (by decide) (va_recv hK hP (ci := 6) (q0 := 0) rfl rfl) rfl hl.1 rfl (Nat.le_of_ble_eq_true rfl) dX6_begin_15 ⟨Nat.le_of_ble_eq_true rfl, Nat.le_of_ble_eq_true rfl⟩ (fun r_1 u H locs hw hP hD hS => ?_)
  subst hw
  have hP : va_P D vwCl [(a0_now, .inr (0, [.ref a0_now_counts, .ref a0_now_roads, .ref a0_now_bridges, .ref a0_now_waggons, .ref a0_now_parts, .ref a0_now_settings, .ref a0_now_trip, .int 0])), (a0_now_counts, .inl (E 0, 4, .inl (fun _ => 0))), (a0, .inr (6, [.ref a0_now, .ref a0_kept, .int 0, .ref a0_ways, .ref a0_shelves, .ref a0_tape, .ref a0_reader, .ref a0_refusals, .ref a0_bestPack]))] H := hP
  have hD : va_D A [(a0_now, .inr (0, [.ref a0_now_counts, .ref a0_now_roads, .ref a0_now_bridges, .ref a0_now_waggons, .ref a0_now_parts, .ref a0_now_settings, .ref a0_now_trip, .int 0])), (a0_now_counts, .inl (E 0, 4, .inl (fun _ => 0))), (a0, .inr (6, [.ref a0_now, .ref a0_kept, .int 0, .ref a0_ways, .ref a0_shelves, .ref a0_tape, .ref a0_reader, .ref a0_refusals, .ref a0_bestPack]))] := hD
  refine W.widen (k := 0) (n := 0) (Nat.le_refl _) (Nat.le_refl _) ?_
  refine W.widen (k := 0) (n := 0) (Nat.le_of_ble_eq_true rfl) (Nat.le_of_ble_eq_true rfl) ?_
  exact W.iret (v := (-2)) hx hb hr (fun t ht hW => ⟨⟨(-2), (), rfl, rfl, ⟨by rw [ht]; exact hP.sub [] rfl, hD.sub [] (by decide) rfl⟩⟩, hS.F ht⟩) hS.2.2 dX6_begin_18
set_option maxHeartbeats 4000000 in
set_option maxRecDepth 100000 in
theorem c_X6_stand (l : Launch) (D : va_G) (E : Nat → ClassId) (G : Nat → Nat) (sz : Nat) (a0 : Nat) (v_a : Int32) (v_b : Int32) (v_c : Int32) (a0_now : Nat) (a0_kept : Nat) (a0_ways : Nat) (a0_shelves : Nat) (a0_tape : Nat) (a0_reader : Nat) (a0_refusals : Nat) (a0_bestPack : Nat) (a0_now_counts : Nat) (a0_now_roads : Nat) (a0_now_bridges : Nat) (a0_now_waggons : Nat) (a0_now_parts : Nat) (a0_now_settings : Nat) (a0_now_trip : Nat) : Met l yX6_stand (oh_w yX6_stand cX6_stand 6 (some .int)) ({ frames := 2, cells := 0, slots := 0, locals := 44 }) (oh_Pm D E G [.ref a0, .int v_a, .int v_b, .int v_c] [(a0, .inr (6, [.ref a0_now, .ref a0_kept, .int 0, .ref a0_ways, .ref a0_shelves, .ref a0_tape, .ref a0_reader, .ref a0_refusals, .ref a0_bestPack])), (a0_now, .inr (0, [.ref a0_now_counts, .ref a0_now_roads, .ref a0_now_bridges, .ref a0_now_waggons, .ref a0_now_parts, .ref a0_now_settings, .ref a0_now_trip, .int 0])), (a0_now_counts, .inl (E 0, 4, .inl (fun _ => 0))), (a0_refusals, .inl (E 0, 5, .inl (fun _ => 0)))] sz) (va_Qi (fun r (_ : Unit) => r = (-2)) (oh_B D (va_A [(a0, .inr (6, [.ref a0_now, .ref a0_kept, .int 0, .ref a0_ways, .ref a0_shelves, .ref a0_tape, .ref a0_reader, .ref a0_refusals, .ref a0_bestPack])), (a0_now, .inr (0, [.ref a0_now_counts, .ref a0_now_roads, .ref a0_now_bridges, .ref a0_now_waggons, .ref a0_now_parts, .ref a0_now_settings, .ref a0_now_trip, .int 0])), (a0_now_counts, .inl (E 0, 4, .inl (fun _ => 0))), (a0_refusals, .inl (E 0, 5, .inl (fun _ => 0)))] sz) (fun _ => [])) (va_A [(a0, .inr (6, [.ref a0_now, .ref a0_kept, .int 0, .ref a0_ways, .ref a0_shelves, .ref a0_tape, .ref a0_reader, .ref a0_refusals, .ref a0_bestPack])), (a0_now, .inr (0, [.ref a0_now_counts, .ref a0_now_roads, .ref a0_now_bridges, .ref a0_now_waggons, .ref a0_now_parts, .ref a0_now_settings, .ref a0_now_trip, .int 0])), (a0_now_counts, .inl (E 0, 4, .inl (fun _ => 0))), (a0_refusals, .inl (E 0, 5, .inl (fun _ => 0)))] sz)) 0 0 (va_A [(a0, .inr (6, [.ref a0_now, .ref a0_kept, .int 0, .ref a0_ways, .ref a0_shelves, .ref a0_tape, .ref a0_reader, .ref a0_refusals, .ref a0_bestPack])), (a0_now, .inr (0, [.ref a0_now_counts, .ref a0_now_roads, .ref a0_now_bridges, .ref a0_now_waggons, .ref a0_now_parts, .ref a0_now_settings, .ref a0_now_trip, .int 0])), (a0_now_counts, .inl (E 0, 4, .inl (fun _ => 0))), (a0_refusals, .inl (E 0, 5, .inl (fun _ => 0)))] sz) := by
  refine Met.ofW (cc := cX6_stand) (maxL := 6) (ret := (some .int)) (by decide) rfl ?_
  intro p e s m args below meth c s₁ B hml hv
  obtain ⟨rfl, hsz, hP, hK, hD0, hG⟩ := hv
  have hx := B.exec
  have hb := B.bytes
  have hr := B.returns
  have hts := atoms_spec (ws := (oh_w yX6_stand cX6_stand 6 (some .int))) B.pre
  have htg : ∀ w ∈ oh_t, w.before _ s = true := fun w h => hts w (List.mem_cons_of_mem _ h)
  have hown : s.vm.findClass RX6 = some m.cls := findClass_of_methodNamed B.named
  have hlocks := B.notSynchronized
  subst hsz
  have hD := hD0.self (sz := s.heap.size)
  generalize hAe : va_A [(a0, .inr (6, [.ref a0_now, .ref a0_kept, .int 0, .ref a0_ways, .ref a0_shelves, .ref a0_tape, .ref a0_reader, .ref a0_refusals, .ref a0_bestPack])), (a0_now, .inr (0, [.ref a0_now_counts, .ref a0_now_roads, .ref a0_now_bridges, .ref a0_now_waggons, .ref a0_now_parts, .ref a0_now_settings, .ref a0_now_trip, .int 0])), (a0_now_counts, .inl (E 0, 4, .inl (fun _ => 0))), (a0_refusals, .inl (E 0, 5, .inl (fun _ => 0)))] s.heap.size = A at hD hG ⊢
  have hA : ∀ q : Nat, s.heap.size ≤ q → A q := fun q h => by rw [← hAe]; exact Or.inr h
  have hS : va_S A s.heap s.heap [] := va_S.rf
  have hP : va_P D vwCl [(a0, .inr (6, [.ref a0_now, .ref a0_kept, .int 0, .ref a0_ways, .ref a0_shelves, .ref a0_tape, .ref a0_reader, .ref a0_refusals, .ref a0_bestPack])), (a0_now, .inr (0, [.ref a0_now_counts, .ref a0_now_roads, .ref a0_now_bridges, .ref a0_now_waggons, .ref a0_now_parts, .ref a0_now_settings, .ref a0_now_trip, .int 0])), (a0_now_counts, .inl (E 0, 4, .inl (fun _ => 0))), (a0_refusals, .inl (E 0, 5, .inl (fun _ => 0)))] s.heap := hP
  have hl := lv_entry ([.ref a0, .int v_a, .int v_b, .int v_c]) (n := 6) (Nat.le_of_ble_eq_true rfl)
  rw [lg_entry_eq]
  generalize (lg_sl ([.ref a0, .int v_a, .int v_b, .int v_c]) ++ List.replicate (6 - (lg_sl ([.ref a0, .int v_a, .int v_b, .int v_c])).length) Slot.unset).toArray = ls at hl ⊢
  have hl : lv_has ls 6 [(0, .ref a0), (1, .int v_a), (2, .int v_b), (3, .int v_c)] := hl
  refine lv_aload_n hx hb dX6_stand_0 rfl (lv_at hl 0 rfl) ?_
  refine lv_iload_n hx hb dX6_stand_1 rfl (lv_at hl 1 rfl) ?_
  refine oh_pV (As := [.int v_a]) (rest := []) (v := 0) ⟨hx, hb, hml, hown, htg⟩ (k_X6_isBridge l D E G a0 v_a a0_now a0_kept a0_ways a0_shelves a0_tape a0_reader a0_refusals a0_bestPack a0_now_counts a0_now_roads a0_now_bridges a0_now_waggons a0_now_parts a0_now_settings a0_now_trip) (cwV 1 htg (oh_gV q_366 q_368 q_2 q_66 q_369) rfl rfl rfl pdVX6_isBridge ⟨Nat.le_of_ble_eq_true rfl, Nat.le_of_ble_eq_true rfl⟩) hK (hP.sub (ws' := [(a0, .inr (6, [.ref a0_now, .ref a0_kept, .int 0, .ref a0_ways, .ref a0_shelves, .ref a0_tape, .ref a0_reader, .ref a0_refusals, .ref a0_bestPack])), (a0_now, .inr (0, [.ref a0_now_counts, .ref a0_now_roads, .ref a0_now_bridges, .ref a0_now_waggons, .ref a0_now_parts, .ref a0_now_settings, .ref a0_now_trip, .int 0])), (a0_now_counts, .inl (E 0, 4, .inl (fun _ => 0)))]) [0, 1, 2] rfl) hG hS (va_recv hK hP (ci := 6) (q0 := 0) rfl rfl) rfl hl.1 rfl (Nat.le_of_ble_eq_true rfl) dX6_stand_2 ⟨Nat.le_of_ble_eq_true rfl, Nat.le_of_ble_eq_true rfl⟩ ?_
  refine lv_if_eq (tgt := 17) hx hb dX6_stand_5 (by decide) (fun _ => ?_) (fun c => absurd (show (0 : Int32) = 0 from by decide) c)
  refine lv_aload_n hx hb dX6_stand_17 rfl (lv_at hl 0 rfl) ?_
  refine lv_bipush (v := (-2)) hx hb dX6_stand_18 (by decide) ?_
  refine oh_mV (As := [.int (-2)]) (rest := []) (wr := [(a0_now, .inr (0, [.ref a0_now_counts, .ref a0_now_roads, .ref a0_now_bridges, .ref a0_now_waggons, .ref a0_now_parts, .ref a0_now_settings, .ref a0_now_trip, .int 0])), (a0_now_counts, .inl (E 0, 4, .inl (fun _ => 0)))]) ⟨hx, hb, hml, hown, htg⟩ (c_X6_refuse l D E G s.heap.size a0 (-2) a0_now a0_kept a0_ways a0_shelves a0_tape a0_reader a0_refusals a0_bestPack) (cwV 1 htg (oh_gV q_296 q_298 q_0 q_66 q_299) rfl rfl rfl pdVX6_refuse ⟨Nat.le_of_ble_eq_true rfl, Nat.le_of_ble_eq_true rfl⟩) hK hP hD hG hS hA [0, 3] [1, 2] rfl rfl (by decide) (by decide) (by decide) (va_recv hK hP (ci := 6) (q0 := 0) rfl rfl) rfl hl.1 rfl (Nat.le_of_ble_eq_true rfl) dX6_stand_20 ⟨Nat.le_of_ble_eq_true rfl, Nat.le_of_ble_eq_true rfl⟩ (fun r_1 u H locs hw hP hD hS => ?_)
  subst hw
  have hP : va_P D vwCl [(a0_now, .inr (0, [.ref a0_now_counts, .ref a0_now_roads, .ref a0_now_bridges, .ref a0_now_waggons, .ref a0_now_parts, .ref a0_now_settings, .ref a0_now_trip, .int 0])), (a0_now_counts, .inl (E 0, 4, .inl (fun _ => 0))), (a0, .inr (6, [.ref a0_now, .ref a0_kept, .int 0, .ref a0_ways, .ref a0_shelves, .ref a0_tape, .ref a0_reader, .ref a0_refusals, .ref a0_bestPack]))] H := hP
  have hD : va_D A [(a0_now, .inr (0, [.ref a0_now_counts, .ref a0_now_roads, .ref a0_now_bridges, .ref a0_now_waggons, .ref a0_now_parts, .ref a0_now_settings, .ref a0_now_trip, .int 0])), (a0_now_counts, .inl (E 0, 4, .inl (fun _ => 0))), (a0, .inr (6, [.ref a0_now, .ref a0_kept, .int 0, .ref a0_ways, .ref a0_shelves, .ref a0_tape, .ref a0_reader, .ref a0_refusals, .ref a0_bestPack]))] := hD
  refine W.widen (k := 0) (n := 0) (Nat.le_refl _) (Nat.le_refl _) ?_
  refine W.widen (k := 0) (n := 0) (Nat.le_of_ble_eq_true rfl) (Nat.le_of_ble_eq_true rfl) ?_
  exact W.iret (v := (-2)) hx hb hr (fun t ht hW => ⟨⟨(-2), (), rfl, rfl, ⟨by rw [ht]; exact hP.sub [] rfl, hD.sub [] (by decide) rfl⟩⟩, hS.F ht⟩) hS.2.2 dX6_stand_23
set_option maxHeartbeats 4000000 in
set_option maxRecDepth 100000 in
theorem c_X6_shut (l : Launch) (D : va_G) (E : Nat → ClassId) (G : Nat → Nat) (sz : Nat) (a0 : Nat) (v_a : Int32) (v_b : Int32) (a0_now : Nat) (a0_kept : Nat) (a0_ways : Nat) (a0_shelves : Nat) (a0_tape : Nat) (a0_reader : Nat) (a0_refusals : Nat) (a0_bestPack : Nat) (a0_now_counts : Nat) (a0_now_roads : Nat) (a0_now_bridges : Nat) (a0_now_waggons : Nat) (a0_now_parts : Nat) (a0_now_settings : Nat) (a0_now_trip : Nat) : Met l yX6_shut (oh_w yX6_shut cX6_shut 4 (some .int)) ({ frames := 2, cells := 0, slots := 0, locals := 44 }) (oh_Pm D E G [.ref a0, .int v_a, .int v_b] [(a0, .inr (6, [.ref a0_now, .ref a0_kept, .int 0, .ref a0_ways, .ref a0_shelves, .ref a0_tape, .ref a0_reader, .ref a0_refusals, .ref a0_bestPack])), (a0_now, .inr (0, [.ref a0_now_counts, .ref a0_now_roads, .ref a0_now_bridges, .ref a0_now_waggons, .ref a0_now_parts, .ref a0_now_settings, .ref a0_now_trip, .int 0])), (a0_now_counts, .inl (E 0, 4, .inl (fun _ => 0))), (a0_refusals, .inl (E 0, 5, .inl (fun _ => 0)))] sz) (va_Qi (fun r (_ : Unit) => r = (-2)) (oh_B D (va_A [(a0, .inr (6, [.ref a0_now, .ref a0_kept, .int 0, .ref a0_ways, .ref a0_shelves, .ref a0_tape, .ref a0_reader, .ref a0_refusals, .ref a0_bestPack])), (a0_now, .inr (0, [.ref a0_now_counts, .ref a0_now_roads, .ref a0_now_bridges, .ref a0_now_waggons, .ref a0_now_parts, .ref a0_now_settings, .ref a0_now_trip, .int 0])), (a0_now_counts, .inl (E 0, 4, .inl (fun _ => 0))), (a0_refusals, .inl (E 0, 5, .inl (fun _ => 0)))] sz) (fun _ => [])) (va_A [(a0, .inr (6, [.ref a0_now, .ref a0_kept, .int 0, .ref a0_ways, .ref a0_shelves, .ref a0_tape, .ref a0_reader, .ref a0_refusals, .ref a0_bestPack])), (a0_now, .inr (0, [.ref a0_now_counts, .ref a0_now_roads, .ref a0_now_bridges, .ref a0_now_waggons, .ref a0_now_parts, .ref a0_now_settings, .ref a0_now_trip, .int 0])), (a0_now_counts, .inl (E 0, 4, .inl (fun _ => 0))), (a0_refusals, .inl (E 0, 5, .inl (fun _ => 0)))] sz)) 0 0 (va_A [(a0, .inr (6, [.ref a0_now, .ref a0_kept, .int 0, .ref a0_ways, .ref a0_shelves, .ref a0_tape, .ref a0_reader, .ref a0_refusals, .ref a0_bestPack])), (a0_now, .inr (0, [.ref a0_now_counts, .ref a0_now_roads, .ref a0_now_bridges, .ref a0_now_waggons, .ref a0_now_parts, .ref a0_now_settings, .ref a0_now_trip, .int 0])), (a0_now_counts, .inl (E 0, 4, .inl (fun _ => 0))), (a0_refusals, .inl (E 0, 5, .inl (fun _ => 0)))] sz) := by
  refine Met.ofW (cc := cX6_shut) (maxL := 4) (ret := (some .int)) (by decide) rfl ?_
  intro p e s m args below meth c s₁ B hml hv
  obtain ⟨rfl, hsz, hP, hK, hD0, hG⟩ := hv
  have hx := B.exec
  have hb := B.bytes
  have hr := B.returns
  have hts := atoms_spec (ws := (oh_w yX6_shut cX6_shut 4 (some .int))) B.pre
  have htg : ∀ w ∈ oh_t, w.before _ s = true := fun w h => hts w (List.mem_cons_of_mem _ h)
  have hown : s.vm.findClass RX6 = some m.cls := findClass_of_methodNamed B.named
  have hlocks := B.notSynchronized
  subst hsz
  have hD := hD0.self (sz := s.heap.size)
  generalize hAe : va_A [(a0, .inr (6, [.ref a0_now, .ref a0_kept, .int 0, .ref a0_ways, .ref a0_shelves, .ref a0_tape, .ref a0_reader, .ref a0_refusals, .ref a0_bestPack])), (a0_now, .inr (0, [.ref a0_now_counts, .ref a0_now_roads, .ref a0_now_bridges, .ref a0_now_waggons, .ref a0_now_parts, .ref a0_now_settings, .ref a0_now_trip, .int 0])), (a0_now_counts, .inl (E 0, 4, .inl (fun _ => 0))), (a0_refusals, .inl (E 0, 5, .inl (fun _ => 0)))] s.heap.size = A at hD hG ⊢
  have hA : ∀ q : Nat, s.heap.size ≤ q → A q := fun q h => by rw [← hAe]; exact Or.inr h
  have hS : va_S A s.heap s.heap [] := va_S.rf
  have hP : va_P D vwCl [(a0, .inr (6, [.ref a0_now, .ref a0_kept, .int 0, .ref a0_ways, .ref a0_shelves, .ref a0_tape, .ref a0_reader, .ref a0_refusals, .ref a0_bestPack])), (a0_now, .inr (0, [.ref a0_now_counts, .ref a0_now_roads, .ref a0_now_bridges, .ref a0_now_waggons, .ref a0_now_parts, .ref a0_now_settings, .ref a0_now_trip, .int 0])), (a0_now_counts, .inl (E 0, 4, .inl (fun _ => 0))), (a0_refusals, .inl (E 0, 5, .inl (fun _ => 0)))] s.heap := hP
  have hl := lv_entry ([.ref a0, .int v_a, .int v_b]) (n := 4) (Nat.le_of_ble_eq_true rfl)
  rw [lg_entry_eq]
  generalize (lg_sl ([.ref a0, .int v_a, .int v_b]) ++ List.replicate (4 - (lg_sl ([.ref a0, .int v_a, .int v_b])).length) Slot.unset).toArray = ls at hl ⊢
  have hl : lv_has ls 4 [(0, .ref a0), (1, .int v_a), (2, .int v_b)] := hl
  refine lv_aload_n hx hb dX6_shut_0 rfl (lv_at hl 0 rfl) ?_
  refine lv_iload_n hx hb dX6_shut_1 rfl (lv_at hl 1 rfl) ?_
  refine oh_pV (As := [.int v_a]) (rest := []) (v := 0) ⟨hx, hb, hml, hown, htg⟩ (k_X6_isRoad l D E G a0 v_a a0_now a0_kept a0_ways a0_shelves a0_tape a0_reader a0_refusals a0_bestPack a0_now_counts a0_now_roads a0_now_bridges a0_now_waggons a0_now_parts a0_now_settings a0_now_trip) (cwV 1 htg (oh_gV q_428 q_430 q_5 q_66 q_431) rfl rfl rfl pdVX6_isRoad ⟨Nat.le_of_ble_eq_true rfl, Nat.le_of_ble_eq_true rfl⟩) hK (hP.sub (ws' := [(a0, .inr (6, [.ref a0_now, .ref a0_kept, .int 0, .ref a0_ways, .ref a0_shelves, .ref a0_tape, .ref a0_reader, .ref a0_refusals, .ref a0_bestPack])), (a0_now, .inr (0, [.ref a0_now_counts, .ref a0_now_roads, .ref a0_now_bridges, .ref a0_now_waggons, .ref a0_now_parts, .ref a0_now_settings, .ref a0_now_trip, .int 0])), (a0_now_counts, .inl (E 0, 4, .inl (fun _ => 0)))]) [0, 1, 2] rfl) hG hS (va_recv hK hP (ci := 6) (q0 := 0) rfl rfl) rfl hl.1 rfl (Nat.le_of_ble_eq_true rfl) dX6_shut_2 ⟨Nat.le_of_ble_eq_true rfl, Nat.le_of_ble_eq_true rfl⟩ ?_
  refine lv_if_ne (tgt := 15) hx hb dX6_shut_5 (by decide) (fun c => absurd (show (0 : Int32) = 0 from by decide) c) (fun _ => ?_)
  refine lv_aload_n hx hb dX6_shut_8 rfl (lv_at hl 0 rfl) ?_
  refine lv_bipush (v := (-2)) hx hb dX6_shut_9 (by decide) ?_
  refine oh_mV (As := [.int (-2)]) (rest := []) (wr := [(a0_now, .inr (0, [.ref a0_now_counts, .ref a0_now_roads, .ref a0_now_bridges, .ref a0_now_waggons, .ref a0_now_parts, .ref a0_now_settings, .ref a0_now_trip, .int 0])), (a0_now_counts, .inl (E 0, 4, .inl (fun _ => 0)))]) ⟨hx, hb, hml, hown, htg⟩ (c_X6_refuse l D E G s.heap.size a0 (-2) a0_now a0_kept a0_ways a0_shelves a0_tape a0_reader a0_refusals a0_bestPack) (cwV 1 htg (oh_gV q_296 q_298 q_0 q_66 q_299) rfl rfl rfl pdVX6_refuse ⟨Nat.le_of_ble_eq_true rfl, Nat.le_of_ble_eq_true rfl⟩) hK hP hD hG hS hA [0, 3] [1, 2] rfl rfl (by decide) (by decide) (by decide) (va_recv hK hP (ci := 6) (q0 := 0) rfl rfl) rfl hl.1 rfl (Nat.le_of_ble_eq_true rfl) dX6_shut_11 ⟨Nat.le_of_ble_eq_true rfl, Nat.le_of_ble_eq_true rfl⟩ (fun r_1 u H locs hw hP hD hS => ?_)
  subst hw
  have hP : va_P D vwCl [(a0_now, .inr (0, [.ref a0_now_counts, .ref a0_now_roads, .ref a0_now_bridges, .ref a0_now_waggons, .ref a0_now_parts, .ref a0_now_settings, .ref a0_now_trip, .int 0])), (a0_now_counts, .inl (E 0, 4, .inl (fun _ => 0))), (a0, .inr (6, [.ref a0_now, .ref a0_kept, .int 0, .ref a0_ways, .ref a0_shelves, .ref a0_tape, .ref a0_reader, .ref a0_refusals, .ref a0_bestPack]))] H := hP
  have hD : va_D A [(a0_now, .inr (0, [.ref a0_now_counts, .ref a0_now_roads, .ref a0_now_bridges, .ref a0_now_waggons, .ref a0_now_parts, .ref a0_now_settings, .ref a0_now_trip, .int 0])), (a0_now_counts, .inl (E 0, 4, .inl (fun _ => 0))), (a0, .inr (6, [.ref a0_now, .ref a0_kept, .int 0, .ref a0_ways, .ref a0_shelves, .ref a0_tape, .ref a0_reader, .ref a0_refusals, .ref a0_bestPack]))] := hD
  refine W.widen (k := 0) (n := 0) (Nat.le_refl _) (Nat.le_refl _) ?_
  refine W.widen (k := 0) (n := 0) (Nat.le_of_ble_eq_true rfl) (Nat.le_of_ble_eq_true rfl) ?_
  exact W.iret (v := (-2)) hx hb hr (fun t ht hW => ⟨⟨(-2), (), rfl, rfl, ⟨by rw [ht]; exact hP.sub [] rfl, hD.sub [] (by decide) rfl⟩⟩, hS.F ht⟩) hS.2.2 dX6_shut_14
set_option maxHeartbeats 4000000 in
set_option maxRecDepth 100000 in
theorem c_X6_bears (l : Launch) (D : va_G) (E : Nat → ClassId) (G : Nat → Nat) (sz : Nat) (a0 : Nat) (v_a : Int32) (v_b : Int32) (a0_now : Nat) (a0_kept : Nat) (a0_ways : Nat) (a0_shelves : Nat) (a0_tape : Nat) (a0_reader : Nat) (a0_refusals : Nat) (a0_bestPack : Nat) (a0_now_counts : Nat) (a0_now_roads : Nat) (a0_now_bridges : Nat) (a0_now_waggons : Nat) (a0_now_parts : Nat) (a0_now_settings : Nat) (a0_now_trip : Nat) : Met l yX6_bears (oh_w yX6_bears cX6_bears 3 (some .int)) ({ frames := 2, cells := 0, slots := 0, locals := 44 }) (oh_Pm D E G [.ref a0, .int v_a, .int v_b] [(a0, .inr (6, [.ref a0_now, .ref a0_kept, .int 0, .ref a0_ways, .ref a0_shelves, .ref a0_tape, .ref a0_reader, .ref a0_refusals, .ref a0_bestPack])), (a0_now, .inr (0, [.ref a0_now_counts, .ref a0_now_roads, .ref a0_now_bridges, .ref a0_now_waggons, .ref a0_now_parts, .ref a0_now_settings, .ref a0_now_trip, .int 0])), (a0_now_counts, .inl (E 0, 4, .inl (fun _ => 0))), (a0_refusals, .inl (E 0, 5, .inl (fun _ => 0)))] sz) (va_Qi (fun r (_ : Unit) => r = (-2)) (oh_B D (va_A [(a0, .inr (6, [.ref a0_now, .ref a0_kept, .int 0, .ref a0_ways, .ref a0_shelves, .ref a0_tape, .ref a0_reader, .ref a0_refusals, .ref a0_bestPack])), (a0_now, .inr (0, [.ref a0_now_counts, .ref a0_now_roads, .ref a0_now_bridges, .ref a0_now_waggons, .ref a0_now_parts, .ref a0_now_settings, .ref a0_now_trip, .int 0])), (a0_now_counts, .inl (E 0, 4, .inl (fun _ => 0))), (a0_refusals, .inl (E 0, 5, .inl (fun _ => 0)))] sz) (fun _ => [])) (va_A [(a0, .inr (6, [.ref a0_now, .ref a0_kept, .int 0, .ref a0_ways, .ref a0_shelves, .ref a0_tape, .ref a0_reader, .ref a0_refusals, .ref a0_bestPack])), (a0_now, .inr (0, [.ref a0_now_counts, .ref a0_now_roads, .ref a0_now_bridges, .ref a0_now_waggons, .ref a0_now_parts, .ref a0_now_settings, .ref a0_now_trip, .int 0])), (a0_now_counts, .inl (E 0, 4, .inl (fun _ => 0))), (a0_refusals, .inl (E 0, 5, .inl (fun _ => 0)))] sz)) 0 0 (va_A [(a0, .inr (6, [.ref a0_now, .ref a0_kept, .int 0, .ref a0_ways, .ref a0_shelves, .ref a0_tape, .ref a0_reader, .ref a0_refusals, .ref a0_bestPack])), (a0_now, .inr (0, [.ref a0_now_counts, .ref a0_now_roads, .ref a0_now_bridges, .ref a0_now_waggons, .ref a0_now_parts, .ref a0_now_settings, .ref a0_now_trip, .int 0])), (a0_now_counts, .inl (E 0, 4, .inl (fun _ => 0))), (a0_refusals, .inl (E 0, 5, .inl (fun _ => 0)))] sz) := by
  refine Met.ofW (cc := cX6_bears) (maxL := 3) (ret := (some .int)) (by decide) rfl ?_
  intro p e s m args below meth c s₁ B hml hv
  obtain ⟨rfl, hsz, hP, hK, hD0, hG⟩ := hv
  have hx := B.exec
  have hb := B.bytes
  have hr := B.returns
  have hts := atoms_spec (ws := (oh_w yX6_bears cX6_bears 3 (some .int))) B.pre
  have htg : ∀ w ∈ oh_t, w.before _ s = true := fun w h => hts w (List.mem_cons_of_mem _ h)
  have hown : s.vm.findClass RX6 = some m.cls := findClass_of_methodNamed B.named
  have hlocks := B.notSynchronized
  subst hsz
  have hD := hD0.self (sz := s.heap.size)
  generalize hAe : va_A [(a0, .inr (6, [.ref a0_now, .ref a0_kept, .int 0, .ref a0_ways, .ref a0_shelves, .ref a0_tape, .ref a0_reader, .ref a0_refusals, .ref a0_bestPack])), (a0_now, .inr (0, [.ref a0_now_counts, .ref a0_now_roads, .ref a0_now_bridges, .ref a0_now_waggons, .ref a0_now_parts, .ref a0_now_settings, .ref a0_now_trip, .int 0])), (a0_now_counts, .inl (E 0, 4, .inl (fun _ => 0))), (a0_refusals, .inl (E 0, 5, .inl (fun _ => 0)))] s.heap.size = A at hD hG ⊢
  have hA : ∀ q : Nat, s.heap.size ≤ q → A q := fun q h => by rw [← hAe]; exact Or.inr h
  have hS : va_S A s.heap s.heap [] := va_S.rf
  have hP : va_P D vwCl [(a0, .inr (6, [.ref a0_now, .ref a0_kept, .int 0, .ref a0_ways, .ref a0_shelves, .ref a0_tape, .ref a0_reader, .ref a0_refusals, .ref a0_bestPack])), (a0_now, .inr (0, [.ref a0_now_counts, .ref a0_now_roads, .ref a0_now_bridges, .ref a0_now_waggons, .ref a0_now_parts, .ref a0_now_settings, .ref a0_now_trip, .int 0])), (a0_now_counts, .inl (E 0, 4, .inl (fun _ => 0))), (a0_refusals, .inl (E 0, 5, .inl (fun _ => 0)))] s.heap := hP
  have hl := lv_entry ([.ref a0, .int v_a, .int v_b]) (n := 3) (Nat.le_of_ble_eq_true rfl)
  rw [lg_entry_eq]
  generalize (lg_sl ([.ref a0, .int v_a, .int v_b]) ++ List.replicate (3 - (lg_sl ([.ref a0, .int v_a, .int v_b])).length) Slot.unset).toArray = ls at hl ⊢
  have hl : lv_has ls 3 [(0, .ref a0), (1, .int v_a), (2, .int v_b)] := hl
  refine lv_aload_n hx hb dX6_bears_0 rfl (lv_at hl 0 rfl) ?_
  refine lv_iload_n hx hb dX6_bears_1 rfl (lv_at hl 1 rfl) ?_
  refine oh_pV (As := [.int v_a]) (rest := []) (v := 0) ⟨hx, hb, hml, hown, htg⟩ (k_X6_isBridge l D E G a0 v_a a0_now a0_kept a0_ways a0_shelves a0_tape a0_reader a0_refusals a0_bestPack a0_now_counts a0_now_roads a0_now_bridges a0_now_waggons a0_now_parts a0_now_settings a0_now_trip) (cwV 1 htg (oh_gV q_366 q_368 q_2 q_66 q_369) rfl rfl rfl pdVX6_isBridge ⟨Nat.le_of_ble_eq_true rfl, Nat.le_of_ble_eq_true rfl⟩) hK (hP.sub (ws' := [(a0, .inr (6, [.ref a0_now, .ref a0_kept, .int 0, .ref a0_ways, .ref a0_shelves, .ref a0_tape, .ref a0_reader, .ref a0_refusals, .ref a0_bestPack])), (a0_now, .inr (0, [.ref a0_now_counts, .ref a0_now_roads, .ref a0_now_bridges, .ref a0_now_waggons, .ref a0_now_parts, .ref a0_now_settings, .ref a0_now_trip, .int 0])), (a0_now_counts, .inl (E 0, 4, .inl (fun _ => 0)))]) [0, 1, 2] rfl) hG hS (va_recv hK hP (ci := 6) (q0 := 0) rfl rfl) rfl hl.1 rfl (Nat.le_of_ble_eq_true rfl) dX6_bears_2 ⟨Nat.le_of_ble_eq_true rfl, Nat.le_of_ble_eq_true rfl⟩ ?_
  refine lv_if_ne (tgt := 15) hx hb dX6_bears_5 (by decide) (fun c => absurd (show (0 : Int32) = 0 from by decide) c) (fun _ => ?_)
  refine lv_aload_n hx hb dX6_bears_8 rfl (lv_at hl 0 rfl) ?_
  refine lv_bipush (v := (-2)) hx hb dX6_bears_9 (by decide) ?_
  refine oh_mV (As := [.int (-2)]) (rest := []) (wr := [(a0_now, .inr (0, [.ref a0_now_counts, .ref a0_now_roads, .ref a0_now_bridges, .ref a0_now_waggons, .ref a0_now_parts, .ref a0_now_settings, .ref a0_now_trip, .int 0])), (a0_now_counts, .inl (E 0, 4, .inl (fun _ => 0)))]) ⟨hx, hb, hml, hown, htg⟩ (c_X6_refuse l D E G s.heap.size a0 (-2) a0_now a0_kept a0_ways a0_shelves a0_tape a0_reader a0_refusals a0_bestPack) (cwV 1 htg (oh_gV q_296 q_298 q_0 q_66 q_299) rfl rfl rfl pdVX6_refuse ⟨Nat.le_of_ble_eq_true rfl, Nat.le_of_ble_eq_true rfl⟩) hK hP hD hG hS hA [0, 3] [1, 2] rfl rfl (by decide) (by decide) (by decide) (va_recv hK hP (ci := 6) (q0 := 0) rfl rfl) rfl hl.1 rfl (Nat.le_of_ble_eq_true rfl) dX6_bears_11 ⟨Nat.le_of_ble_eq_true rfl, Nat.le_of_ble_eq_true rfl⟩ (fun r_1 u H locs hw hP hD hS => ?_)
  subst hw
  have hP : va_P D vwCl [(a0_now, .inr (0, [.ref a0_now_counts, .ref a0_now_roads, .ref a0_now_bridges, .ref a0_now_waggons, .ref a0_now_parts, .ref a0_now_settings, .ref a0_now_trip, .int 0])), (a0_now_counts, .inl (E 0, 4, .inl (fun _ => 0))), (a0, .inr (6, [.ref a0_now, .ref a0_kept, .int 0, .ref a0_ways, .ref a0_shelves, .ref a0_tape, .ref a0_reader, .ref a0_refusals, .ref a0_bestPack]))] H := hP
  have hD : va_D A [(a0_now, .inr (0, [.ref a0_now_counts, .ref a0_now_roads, .ref a0_now_bridges, .ref a0_now_waggons, .ref a0_now_parts, .ref a0_now_settings, .ref a0_now_trip, .int 0])), (a0_now_counts, .inl (E 0, 4, .inl (fun _ => 0))), (a0, .inr (6, [.ref a0_now, .ref a0_kept, .int 0, .ref a0_ways, .ref a0_shelves, .ref a0_tape, .ref a0_reader, .ref a0_refusals, .ref a0_bestPack]))] := hD
  refine W.widen (k := 0) (n := 0) (Nat.le_refl _) (Nat.le_refl _) ?_
  refine W.widen (k := 0) (n := 0) (Nat.le_of_ble_eq_true rfl) (Nat.le_of_ble_eq_true rfl) ?_
  exact W.iret (v := (-2)) hx hb hr (fun t ht hW => ⟨⟨(-2), (), rfl, rfl, ⟨by rw [ht]; exact hP.sub [] rfl, hD.sub [] (by decide) rfl⟩⟩, hS.F ht⟩) hS.2.2 dX6_bears_14
end
section
set_option maxHeartbeats 4000000 in
set_option maxRecDepth 100000 in
theorem c_X6_frost (l : Launch) (D : va_G) (E : Nat → ClassId) (G : Nat → Nat) (sz : Nat) (a0 : Nat) (v_a : Int32) (v_b : Int32) (v_c : Int32) (v_d : Int32) (v_e : Int32) (v_f : Int32) (v_g : Int32) (a0_now : Nat) (a0_kept : Nat) (a0_ways : Nat) (a0_shelves : Nat) (a0_tape : Nat) (a0_reader : Nat) (a0_refusals : Nat) (a0_bestPack : Nat) (a0_now_counts : Nat) (a0_now_roads : Nat) (a0_now_bridges : Nat) (a0_now_waggons : Nat) (a0_now_parts : Nat) (a0_now_settings : Nat) (a0_now_trip : Nat) : Met l yX6_frost (oh_w yX6_frost cX6_frost 11 (some .long)) ({ frames := 4, cells := 0, slots := 0, locals := 89 }) (oh_Pm D E G [.ref a0, .int v_a, .int v_b, .int v_c, .int v_d, .int v_e, .int v_f, .int v_g] [(a0, .inr (6, [.ref a0_now, .ref a0_kept, .int 0, .ref a0_ways, .ref a0_shelves, .ref a0_tape, .ref a0_reader, .ref a0_refusals, .ref a0_bestPack])), (a0_now, .inr (0, [.ref a0_now_counts, .ref a0_now_roads, .ref a0_now_bridges, .ref a0_now_waggons, .ref a0_now_parts, .ref a0_now_settings, .ref a0_now_trip, .int 0])), (a0_now_counts, .inl (E 0, 4, .inl (fun _ => 0))), (a0_refusals, .inl (E 0, 5, .inl (fun _ => 0)))] sz) (va_Ql (fun r (_ : Unit) => r = Int32.toInt64 (-2)) (oh_B D (va_A [(a0, .inr (6, [.ref a0_now, .ref a0_kept, .int 0, .ref a0_ways, .ref a0_shelves, .ref a0_tape, .ref a0_reader, .ref a0_refusals, .ref a0_bestPack])), (a0_now, .inr (0, [.ref a0_now_counts, .ref a0_now_roads, .ref a0_now_bridges, .ref a0_now_waggons, .ref a0_now_parts, .ref a0_now_settings, .ref a0_now_trip, .int 0])), (a0_now_counts, .inl (E 0, 4, .inl (fun _ => 0))), (a0_refusals, .inl (E 0, 5, .inl (fun _ => 0)))] sz) (fun _ => [])) (va_A [(a0, .inr (6, [.ref a0_now, .ref a0_kept, .int 0, .ref a0_ways, .ref a0_shelves, .ref a0_tape, .ref a0_reader, .ref a0_refusals, .ref a0_bestPack])), (a0_now, .inr (0, [.ref a0_now_counts, .ref a0_now_roads, .ref a0_now_bridges, .ref a0_now_waggons, .ref a0_now_parts, .ref a0_now_settings, .ref a0_now_trip, .int 0])), (a0_now_counts, .inl (E 0, 4, .inl (fun _ => 0))), (a0_refusals, .inl (E 0, 5, .inl (fun _ => 0)))] sz)) 0 0 (va_A [(a0, .inr (6, [.ref a0_now, .ref a0_kept, .int 0, .ref a0_ways, .ref a0_shelves, .ref a0_tape, .ref a0_reader, .ref a0_refusals, .ref a0_bestPack])), (a0_now, .inr (0, [.ref a0_now_counts, .ref a0_now_roads, .ref a0_now_bridges, .ref a0_now_waggons, .ref a0_now_parts, .ref a0_now_settings, .ref a0_now_trip, .int 0])), (a0_now_counts, .inl (E 0, 4, .inl (fun _ => 0))), (a0_refusals, .inl (E 0, 5, .inl (fun _ => 0)))] sz) := by
  refine Met.ofW (cc := cX6_frost) (maxL := 11) (ret := (some .long)) (by decide) rfl ?_
  intro p e s m args below meth c s₁ B hml hv
  obtain ⟨rfl, hsz, hP, hK, hD0, hG⟩ := hv
  have hx := B.exec
  have hb := B.bytes
  have hr := B.returns
  have hts := atoms_spec (ws := (oh_w yX6_frost cX6_frost 11 (some .long))) B.pre
  have htg : ∀ w ∈ oh_t, w.before _ s = true := fun w h => hts w (List.mem_cons_of_mem _ h)
  have hown : s.vm.findClass RX6 = some m.cls := findClass_of_methodNamed B.named
  have hlocks := B.notSynchronized
  subst hsz
  have hD := hD0.self (sz := s.heap.size)
  generalize hAe : va_A [(a0, .inr (6, [.ref a0_now, .ref a0_kept, .int 0, .ref a0_ways, .ref a0_shelves, .ref a0_tape, .ref a0_reader, .ref a0_refusals, .ref a0_bestPack])), (a0_now, .inr (0, [.ref a0_now_counts, .ref a0_now_roads, .ref a0_now_bridges, .ref a0_now_waggons, .ref a0_now_parts, .ref a0_now_settings, .ref a0_now_trip, .int 0])), (a0_now_counts, .inl (E 0, 4, .inl (fun _ => 0))), (a0_refusals, .inl (E 0, 5, .inl (fun _ => 0)))] s.heap.size = A at hD hG ⊢
  have hA : ∀ q : Nat, s.heap.size ≤ q → A q := fun q h => by rw [← hAe]; exact Or.inr h
  have hS : va_S A s.heap s.heap [] := va_S.rf
  have hP : va_P D vwCl [(a0, .inr (6, [.ref a0_now, .ref a0_kept, .int 0, .ref a0_ways, .ref a0_shelves, .ref a0_tape, .ref a0_reader, .ref a0_refusals, .ref a0_bestPack])), (a0_now, .inr (0, [.ref a0_now_counts, .ref a0_now_roads, .ref a0_now_bridges, .ref a0_now_waggons, .ref a0_now_parts, .ref a0_now_settings, .ref a0_now_trip, .int 0])), (a0_now_counts, .inl (E 0, 4, .inl (fun _ => 0))), (a0_refusals, .inl (E 0, 5, .inl (fun _ => 0)))] s.heap := hP
  have hl := lv_entry ([.ref a0, .int v_a, .int v_b, .int v_c, .int v_d, .int v_e, .int v_f, .int v_g]) (n := 11) (Nat.le_of_ble_eq_true rfl)
  rw [lg_entry_eq]
  generalize (lg_sl ([.ref a0, .int v_a, .int v_b, .int v_c, .int v_d, .int v_e, .int v_f, .int v_g]) ++ List.replicate (11 - (lg_sl ([.ref a0, .int v_a, .int v_b, .int v_c, .int v_d, .int v_e, .int v_f, .int v_g])).length) Slot.unset).toArray = ls at hl ⊢
  have hl : lv_has ls 11 [(0, .ref a0), (1, .int v_a), (2, .int v_b), (3, .int v_c), (4, .int v_d), (5, .int v_e), (6, .int v_f), (7, .int v_g)] := hl
  refine lv_aload_n hx hb dX6_frost_0 rfl (lv_at hl 0 rfl) ?_
  refine lv_iload_n hx hb dX6_frost_1 rfl (lv_at hl 1 rfl) ?_
  refine lv_iload_n hx hb dX6_frost_2 rfl (lv_at hl 2 rfl) ?_
  refine lv_iload_n hx hb dX6_frost_3 rfl (lv_at hl 3 rfl) ?_
  refine lv_iload hx hb dX6_frost_4 (lv_at hl 4 rfl) ?_
  refine oh_pV (As := [.int v_a, .int v_b, .int v_c, .int v_d]) (rest := []) (v := 0) ⟨hx, hb, hml, hown, htg⟩ (c_X6_isJourney l D E G a0 v_a v_b v_c v_d a0_now a0_kept a0_ways a0_shelves a0_tape a0_reader a0_refusals a0_bestPack a0_now_counts a0_now_roads a0_now_bridges a0_now_waggons a0_now_parts a0_now_settings a0_now_trip) (cwV 4 htg (oh_gV q_776 q_778 q_17 q_66 q_779) rfl rfl rfl pdVX6_isJourney ⟨Nat.le_of_ble_eq_true rfl, Nat.le_of_ble_eq_true rfl⟩) hK (hP.sub (ws' := [(a0, .inr (6, [.ref a0_now, .ref a0_kept, .int 0, .ref a0_ways, .ref a0_shelves, .ref a0_tape, .ref a0_reader, .ref a0_refusals, .ref a0_bestPack])), (a0_now, .inr (0, [.ref a0_now_counts, .ref a0_now_roads, .ref a0_now_bridges, .ref a0_now_waggons, .ref a0_now_parts, .ref a0_now_settings, .ref a0_now_trip, .int 0])), (a0_now_counts, .inl (E 0, 4, .inl (fun _ => 0)))]) [0, 1, 2] rfl) hG hS (va_recv hK hP (ci := 6) (q0 := 0) rfl rfl) rfl hl.1 rfl (Nat.le_of_ble_eq_true rfl) dX6_frost_6 ⟨Nat.le_of_ble_eq_true rfl, Nat.le_of_ble_eq_true rfl⟩ ?_
  refine lv_if_eq (tgt := 46) hx hb dX6_frost_9 (by decide) (fun _ => ?_) (fun c => absurd (show (0 : Int32) = 0 from by decide) c)
  refine lv_aload_n hx hb dX6_frost_46 rfl (lv_at hl 0 rfl) ?_
  refine lv_bipush (v := (-2)) hx hb dX6_frost_47 (by decide) ?_
  refine oh_mV (As := [.int (-2)]) (rest := []) (wr := [(a0_now, .inr (0, [.ref a0_now_counts, .ref a0_now_roads, .ref a0_now_bridges, .ref a0_now_waggons, .ref a0_now_parts, .ref a0_now_settings, .ref a0_now_trip, .int 0])), (a0_now_counts, .inl (E 0, 4, .inl (fun _ => 0)))]) ⟨hx, hb, hml, hown, htg⟩ (c_X6_refuse l D E G s.heap.size a0 (-2) a0_now a0_kept a0_ways a0_shelves a0_tape a0_reader a0_refusals a0_bestPack) (cwV 1 htg (oh_gV q_296 q_298 q_0 q_66 q_299) rfl rfl rfl pdVX6_refuse ⟨Nat.le_of_ble_eq_true rfl, Nat.le_of_ble_eq_true rfl⟩) hK hP hD hG hS hA [0, 3] [1, 2] rfl rfl (by decide) (by decide) (by decide) (va_recv hK hP (ci := 6) (q0 := 0) rfl rfl) rfl hl.1 rfl (Nat.le_of_ble_eq_true rfl) dX6_frost_49 ⟨Nat.le_of_ble_eq_true rfl, Nat.le_of_ble_eq_true rfl⟩ (fun r_1 u H locs hw hP hD hS => ?_)
  subst hw
  have hP : va_P D vwCl [(a0_now, .inr (0, [.ref a0_now_counts, .ref a0_now_roads, .ref a0_now_bridges, .ref a0_now_waggons, .ref a0_now_parts, .ref a0_now_settings, .ref a0_now_trip, .int 0])), (a0_now_counts, .inl (E 0, 4, .inl (fun _ => 0))), (a0, .inr (6, [.ref a0_now, .ref a0_kept, .int 0, .ref a0_ways, .ref a0_shelves, .ref a0_tape, .ref a0_reader, .ref a0_refusals, .ref a0_bestPack]))] H := hP
  have hD : va_D A [(a0_now, .inr (0, [.ref a0_now_counts, .ref a0_now_roads, .ref a0_now_bridges, .ref a0_now_waggons, .ref a0_now_parts, .ref a0_now_settings, .ref a0_now_trip, .int 0])), (a0_now_counts, .inl (E 0, 4, .inl (fun _ => 0))), (a0, .inr (6, [.ref a0_now, .ref a0_kept, .int 0, .ref a0_ways, .ref a0_shelves, .ref a0_tape, .ref a0_reader, .ref a0_refusals, .ref a0_bestPack]))] := hD
  refine W.widen (k := 0) (n := 0) (Nat.le_refl _) (Nat.le_refl _) ?_
  refine lv_i2l (v := Int32.toInt64 (-2)) hx hb dX6_frost_52 (by rfl) ?_
  refine W.widen (k := 0) (n := 0) (Nat.le_of_ble_eq_true rfl) (Nat.le_of_ble_eq_true rfl) ?_
  exact W.lret (v := Int32.toInt64 (-2)) hx hb hr (fun t ht hW => ⟨⟨Int32.toInt64 (-2), (), rfl, rfl, ⟨by rw [ht]; exact hP.sub [] rfl, hD.sub [] (by decide) rfl⟩⟩, hS.F ht⟩) hS.2.2 dX6_frost_53
set_option maxHeartbeats 4000000 in
set_option maxRecDepth 100000 in
theorem c_X6_step (l : Launch) (D : va_G) (E : Nat → ClassId) (G : Nat → Nat) (sz : Nat) (a0 : Nat) (a0_now : Nat) (a0_kept : Nat) (a0_ways : Nat) (a0_shelves : Nat) (a0_tape : Nat) (a0_reader : Nat) (a0_refusals : Nat) (a0_bestPack : Nat) (a0_now_counts : Nat) (a0_now_roads : Nat) (a0_now_bridges : Nat) (a0_now_waggons : Nat) (a0_now_parts : Nat) (a0_now_settings : Nat) (a0_now_trip : Nat) : Met l yX6_step (oh_w yX6_step cX6_step 3 (some .int)) ({ frames := 2, cells := 0, slots := 0, locals := 44 }) (oh_Pm D E G [.ref a0] [(a0, .inr (6, [.ref a0_now, .ref a0_kept, .int 0, .ref a0_ways, .ref a0_shelves, .ref a0_tape, .ref a0_reader, .ref a0_refusals, .ref a0_bestPack])), (a0_now, .inr (0, [.ref a0_now_counts, .ref a0_now_roads, .ref a0_now_bridges, .ref a0_now_waggons, .ref a0_now_parts, .ref a0_now_settings, .ref a0_now_trip, .int 0])), (a0_refusals, .inl (E 0, 5, .inl (fun _ => 0)))] sz) (va_Qi (fun r (_ : Unit) => r = (-5)) (oh_B D (va_A [(a0, .inr (6, [.ref a0_now, .ref a0_kept, .int 0, .ref a0_ways, .ref a0_shelves, .ref a0_tape, .ref a0_reader, .ref a0_refusals, .ref a0_bestPack])), (a0_now, .inr (0, [.ref a0_now_counts, .ref a0_now_roads, .ref a0_now_bridges, .ref a0_now_waggons, .ref a0_now_parts, .ref a0_now_settings, .ref a0_now_trip, .int 0])), (a0_refusals, .inl (E 0, 5, .inl (fun _ => 0)))] sz) (fun _ => [])) (va_A [(a0, .inr (6, [.ref a0_now, .ref a0_kept, .int 0, .ref a0_ways, .ref a0_shelves, .ref a0_tape, .ref a0_reader, .ref a0_refusals, .ref a0_bestPack])), (a0_now, .inr (0, [.ref a0_now_counts, .ref a0_now_roads, .ref a0_now_bridges, .ref a0_now_waggons, .ref a0_now_parts, .ref a0_now_settings, .ref a0_now_trip, .int 0])), (a0_refusals, .inl (E 0, 5, .inl (fun _ => 0)))] sz)) 0 0 (va_A [(a0, .inr (6, [.ref a0_now, .ref a0_kept, .int 0, .ref a0_ways, .ref a0_shelves, .ref a0_tape, .ref a0_reader, .ref a0_refusals, .ref a0_bestPack])), (a0_now, .inr (0, [.ref a0_now_counts, .ref a0_now_roads, .ref a0_now_bridges, .ref a0_now_waggons, .ref a0_now_parts, .ref a0_now_settings, .ref a0_now_trip, .int 0])), (a0_refusals, .inl (E 0, 5, .inl (fun _ => 0)))] sz) := by
  refine Met.ofW (cc := cX6_step) (maxL := 3) (ret := (some .int)) (by decide) rfl ?_
  intro p e s m args below meth c s₁ B hml hv
  obtain ⟨rfl, hsz, hP, hK, hD0, hG⟩ := hv
  have hx := B.exec
  have hb := B.bytes
  have hr := B.returns
  have hts := atoms_spec (ws := (oh_w yX6_step cX6_step 3 (some .int))) B.pre
  have htg : ∀ w ∈ oh_t, w.before _ s = true := fun w h => hts w (List.mem_cons_of_mem _ h)
  have hown : s.vm.findClass RX6 = some m.cls := findClass_of_methodNamed B.named
  have hlocks := B.notSynchronized
  subst hsz
  have hD := hD0.self (sz := s.heap.size)
  generalize hAe : va_A [(a0, .inr (6, [.ref a0_now, .ref a0_kept, .int 0, .ref a0_ways, .ref a0_shelves, .ref a0_tape, .ref a0_reader, .ref a0_refusals, .ref a0_bestPack])), (a0_now, .inr (0, [.ref a0_now_counts, .ref a0_now_roads, .ref a0_now_bridges, .ref a0_now_waggons, .ref a0_now_parts, .ref a0_now_settings, .ref a0_now_trip, .int 0])), (a0_refusals, .inl (E 0, 5, .inl (fun _ => 0)))] s.heap.size = A at hD hG ⊢
  have hA : ∀ q : Nat, s.heap.size ≤ q → A q := fun q h => by rw [← hAe]; exact Or.inr h
  have hS : va_S A s.heap s.heap [] := va_S.rf
  have hP : va_P D vwCl [(a0, .inr (6, [.ref a0_now, .ref a0_kept, .int 0, .ref a0_ways, .ref a0_shelves, .ref a0_tape, .ref a0_reader, .ref a0_refusals, .ref a0_bestPack])), (a0_now, .inr (0, [.ref a0_now_counts, .ref a0_now_roads, .ref a0_now_bridges, .ref a0_now_waggons, .ref a0_now_parts, .ref a0_now_settings, .ref a0_now_trip, .int 0])), (a0_refusals, .inl (E 0, 5, .inl (fun _ => 0)))] s.heap := hP
  have hl := lv_entry ([.ref a0]) (n := 3) (Nat.le_of_ble_eq_true rfl)
  rw [lg_entry_eq]
  generalize (lg_sl ([.ref a0]) ++ List.replicate (3 - (lg_sl ([.ref a0])).length) Slot.unset).toArray = ls at hl ⊢
  have hl : lv_has ls 3 [(0, .ref a0)] := hl
  refine lv_aload_n hx hb dX6_step_0 rfl (lv_at hl 0 rfl) ?_
  refine va_get (D := D) (ci := 6) (v := .ref a0_now) (C := RX6) (T := TX6) (N := 9) hx hb htg ig_6 hown hK hP 0 rfl rfl 0 (by decide) (htg _ q_258) (fun _ h9 => h9) rfl dX6_step_1 ?_
  refine va_get (D := D) (ci := 0) (v := .ref a0_now_trip) (C := RX0) (T := TX0) (N := 8) hx hb htg ig_0 hown hK hP 1 rfl rfl 6 (by decide) (htg _ q_112) (fun _ h9 => h9) rfl dX6_step_4 ?_
  refine lv_astore_n (lv' := [(1, .ref a0_now_trip), (0, .ref a0)]) hx hb dX6_step_7 rfl hl (by decide) rfl (fun ls hl => ?_)
  refine lv_aload_n hx hb dX6_step_8 rfl (lv_at hl 1 rfl) ?_
  refine va_get (D := D) (ci := 6) (v := .ref a0_now) (C := RX6) (T := TX6) (N := 9) hx hb htg ig_6 hown hK hP 0 rfl rfl 0 (by decide) (htg _ q_258) (fun _ h9 => h9) rfl dX6_step_9 ?_
  refine va_get (D := D) (ci := 0) (v := .int 0) (C := RX0) (T := TX0) (N := 8) hx hb htg ig_0 hown hK hP 1 rfl rfl 7 (by decide) (htg _ q_114) (fun _ h9 => h9) rfl dX6_step_12 ?_
  refine lv_if_eq (tgt := 27) hx hb dX6_step_15 (by decide) (fun _ => ?_) (fun c => absurd (show (0 : Int32) = 0 from by decide) c)
  refine lv_aload_n hx hb dX6_step_27 rfl (lv_at hl 1 rfl) ?_
  refine lv_bipush (v := (-5)) hx hb dX6_step_28 (by decide) ?_
  refine oh_mV (As := [.int (-5)]) (rest := []) (wr := [(a0_now, .inr (0, [.ref a0_now_counts, .ref a0_now_roads, .ref a0_now_bridges, .ref a0_now_waggons, .ref a0_now_parts, .ref a0_now_settings, .ref a0_now_trip, .int 0]))]) ⟨hx, hb, hml, hown, htg⟩ (c_X6_refuse l D E G s.heap.size a0 (-5) a0_now a0_kept a0_ways a0_shelves a0_tape a0_reader a0_refusals a0_bestPack) (cwV 1 htg (oh_gV q_296 q_298 q_0 q_66 q_299) rfl rfl rfl pdVX6_refuse ⟨Nat.le_of_ble_eq_true rfl, Nat.le_of_ble_eq_true rfl⟩) hK hP hD hG hS hA [0, 2] [1] rfl rfl (by decide) (by decide) (by decide) (va_recv hK hP (ci := 6) (q0 := 0) rfl rfl) rfl hl.1 rfl (Nat.le_of_ble_eq_true rfl) dX6_step_30 ⟨Nat.le_of_ble_eq_true rfl, Nat.le_of_ble_eq_true rfl⟩ (fun r_1 u H locs hw hP hD hS => ?_)
  subst hw
  have hP : va_P D vwCl [(a0_now, .inr (0, [.ref a0_now_counts, .ref a0_now_roads, .ref a0_now_bridges, .ref a0_now_waggons, .ref a0_now_parts, .ref a0_now_settings, .ref a0_now_trip, .int 0])), (a0, .inr (6, [.ref a0_now, .ref a0_kept, .int 0, .ref a0_ways, .ref a0_shelves, .ref a0_tape, .ref a0_reader, .ref a0_refusals, .ref a0_bestPack]))] H := hP
  have hD : va_D A [(a0_now, .inr (0, [.ref a0_now_counts, .ref a0_now_roads, .ref a0_now_bridges, .ref a0_now_waggons, .ref a0_now_parts, .ref a0_now_settings, .ref a0_now_trip, .int 0])), (a0, .inr (6, [.ref a0_now, .ref a0_kept, .int 0, .ref a0_ways, .ref a0_shelves, .ref a0_tape, .ref a0_reader, .ref a0_refusals, .ref a0_bestPack]))] := hD
  refine W.widen (k := 0) (n := 0) (Nat.le_refl _) (Nat.le_refl _) ?_
  refine W.widen (k := 0) (n := 0) (Nat.le_of_ble_eq_true rfl) (Nat.le_of_ble_eq_true rfl) ?_
  exact W.iret (v := (-5)) hx hb hr (fun t ht hW => ⟨⟨(-5), (), rfl, rfl, ⟨by rw [ht]; exact hP.sub [] rfl, hD.sub [] (by decide) rfl⟩⟩, hS.F ht⟩) hS.2.2 dX6_step_33
def fX6_under (v_a : Int32) : Int32 :=
  if (fX6_within v_a 0 4) = 0 then (-2) else (-5)
set_option maxHeartbeats 4000000 in
set_option maxRecDepth 100000 in
theorem c_X6_under (l : Launch) (D : va_G) (E : Nat → ClassId) (G : Nat → Nat) (sz : Nat) (a0 : Nat) (v_a : Int32) (a0_now : Nat) (a0_kept : Nat) (a0_ways : Nat) (a0_shelves : Nat) (a0_tape : Nat) (a0_reader : Nat) (a0_refusals : Nat) (a0_bestPack : Nat) (a0_now_counts : Nat) (a0_now_roads : Nat) (a0_now_bridges : Nat) (a0_now_waggons : Nat) (a0_now_parts : Nat) (a0_now_settings : Nat) (a0_now_trip : Nat) : Met l yX6_under (oh_w yX6_under cX6_under 2 (some .int)) ({ frames := 2, cells := 0, slots := 0, locals := 44 }) (oh_Pm D E G [.ref a0, .int v_a] [(a0, .inr (6, [.ref a0_now, .ref a0_kept, .int 0, .ref a0_ways, .ref a0_shelves, .ref a0_tape, .ref a0_reader, .ref a0_refusals, .ref a0_bestPack])), (a0_now, .inr (0, [.ref a0_now_counts, .ref a0_now_roads, .ref a0_now_bridges, .ref a0_now_waggons, .ref a0_now_parts, .ref a0_now_settings, .ref a0_now_trip, .int 0])), (a0_refusals, .inl (E 0, 5, .inl (fun _ => 0)))] sz) (va_Qi (fun r (_ : Unit) => r = fX6_under v_a) (oh_B D (va_A [(a0, .inr (6, [.ref a0_now, .ref a0_kept, .int 0, .ref a0_ways, .ref a0_shelves, .ref a0_tape, .ref a0_reader, .ref a0_refusals, .ref a0_bestPack])), (a0_now, .inr (0, [.ref a0_now_counts, .ref a0_now_roads, .ref a0_now_bridges, .ref a0_now_waggons, .ref a0_now_parts, .ref a0_now_settings, .ref a0_now_trip, .int 0])), (a0_refusals, .inl (E 0, 5, .inl (fun _ => 0)))] sz) (fun _ => [])) (va_A [(a0, .inr (6, [.ref a0_now, .ref a0_kept, .int 0, .ref a0_ways, .ref a0_shelves, .ref a0_tape, .ref a0_reader, .ref a0_refusals, .ref a0_bestPack])), (a0_now, .inr (0, [.ref a0_now_counts, .ref a0_now_roads, .ref a0_now_bridges, .ref a0_now_waggons, .ref a0_now_parts, .ref a0_now_settings, .ref a0_now_trip, .int 0])), (a0_refusals, .inl (E 0, 5, .inl (fun _ => 0)))] sz)) 0 0 (va_A [(a0, .inr (6, [.ref a0_now, .ref a0_kept, .int 0, .ref a0_ways, .ref a0_shelves, .ref a0_tape, .ref a0_reader, .ref a0_refusals, .ref a0_bestPack])), (a0_now, .inr (0, [.ref a0_now_counts, .ref a0_now_roads, .ref a0_now_bridges, .ref a0_now_waggons, .ref a0_now_parts, .ref a0_now_settings, .ref a0_now_trip, .int 0])), (a0_refusals, .inl (E 0, 5, .inl (fun _ => 0)))] sz) := by
  refine Met.ofW (cc := cX6_under) (maxL := 2) (ret := (some .int)) (by decide) rfl ?_
  intro p e s m args below meth c s₁ B hml hv
  obtain ⟨rfl, hsz, hP, hK, hD0, hG⟩ := hv
  have hx := B.exec
  have hb := B.bytes
  have hr := B.returns
  have hts := atoms_spec (ws := (oh_w yX6_under cX6_under 2 (some .int))) B.pre
  have htg : ∀ w ∈ oh_t, w.before _ s = true := fun w h => hts w (List.mem_cons_of_mem _ h)
  have hown : s.vm.findClass RX6 = some m.cls := findClass_of_methodNamed B.named
  have hlocks := B.notSynchronized
  subst hsz
  have hD := hD0.self (sz := s.heap.size)
  generalize hAe : va_A [(a0, .inr (6, [.ref a0_now, .ref a0_kept, .int 0, .ref a0_ways, .ref a0_shelves, .ref a0_tape, .ref a0_reader, .ref a0_refusals, .ref a0_bestPack])), (a0_now, .inr (0, [.ref a0_now_counts, .ref a0_now_roads, .ref a0_now_bridges, .ref a0_now_waggons, .ref a0_now_parts, .ref a0_now_settings, .ref a0_now_trip, .int 0])), (a0_refusals, .inl (E 0, 5, .inl (fun _ => 0)))] s.heap.size = A at hD hG ⊢
  have hA : ∀ q : Nat, s.heap.size ≤ q → A q := fun q h => by rw [← hAe]; exact Or.inr h
  have hS : va_S A s.heap s.heap [] := va_S.rf
  have hP : va_P D vwCl [(a0, .inr (6, [.ref a0_now, .ref a0_kept, .int 0, .ref a0_ways, .ref a0_shelves, .ref a0_tape, .ref a0_reader, .ref a0_refusals, .ref a0_bestPack])), (a0_now, .inr (0, [.ref a0_now_counts, .ref a0_now_roads, .ref a0_now_bridges, .ref a0_now_waggons, .ref a0_now_parts, .ref a0_now_settings, .ref a0_now_trip, .int 0])), (a0_refusals, .inl (E 0, 5, .inl (fun _ => 0)))] s.heap := hP
  have hl := lv_entry ([.ref a0, .int v_a]) (n := 2) (Nat.le_of_ble_eq_true rfl)
  rw [lg_entry_eq]
  generalize (lg_sl ([.ref a0, .int v_a]) ++ List.replicate (2 - (lg_sl ([.ref a0, .int v_a])).length) Slot.unset).toArray = ls at hl ⊢
  have hl : lv_has ls 2 [(0, .ref a0), (1, .int v_a)] := hl
  refine lv_iload_n hx hb dX6_under_0 rfl (lv_at hl 1 rfl) ?_
  refine lv_iconst (v := 0) hx hb dX6_under_1 (by decide) ?_
  refine lv_iconst (v := 4) hx hb dX6_under_2 (by decide) ?_
  refine oh_pS (As := [.int v_a, .int 0, .int 4]) (rest := []) (v := fX6_within v_a 0 4) ⟨hx, hb, hml, hown, htg⟩ (c_X6_within l D E G v_a 0 4) (va_cwS 3 htg (oh_gS q_293 q_294 q_66 q_295) rfl rfl rfl pdX6_within ⟨Nat.le_of_ble_eq_true rfl, Nat.le_of_ble_eq_true rfl⟩) hK (hP.sub (ws' := []) [] rfl) hG hS rfl hl.1 rfl (Nat.le_of_ble_eq_true rfl) dX6_under_3 ⟨Nat.le_of_ble_eq_true rfl, Nat.le_of_ble_eq_true rfl⟩ ?_
  refine lv_if_ne (tgt := 16) hx hb dX6_under_6 (by decide) (fun (c_1 : ¬ ((fX6_within v_a 0 4) = 0)) => ?_) (fun (c_1 : (fX6_within v_a 0 4) = 0) => ?_)
  · refine lv_aload_n hx hb dX6_under_16 rfl (lv_at hl 0 rfl) ?_
    refine va_get (D := D) (ci := 6) (v := .ref a0_now) (C := RX6) (T := TX6) (N := 9) hx hb htg ig_6 hown hK hP 0 rfl rfl 0 (by decide) (htg _ q_258) (fun _ h9 => h9) rfl dX6_under_17 ?_
    refine va_get (D := D) (ci := 0) (v := .int 0) (C := RX0) (T := TX0) (N := 8) hx hb htg ig_0 hown hK hP 1 rfl rfl 7 (by decide) (htg _ q_114) (fun _ h9 => h9) rfl dX6_under_20 ?_
    refine lv_if_eq (tgt := 38) hx hb dX6_under_23 (by decide) (fun _ => ?_) (fun c => absurd (show (0 : Int32) = 0 from by decide) c)
    refine lv_aload_n hx hb dX6_under_38 rfl (lv_at hl 0 rfl) ?_
    refine lv_bipush (v := (-5)) hx hb dX6_under_39 (by decide) ?_
    refine oh_mV (As := [.int (-5)]) (rest := []) (wr := [(a0_now, .inr (0, [.ref a0_now_counts, .ref a0_now_roads, .ref a0_now_bridges, .ref a0_now_waggons, .ref a0_now_parts, .ref a0_now_settings, .ref a0_now_trip, .int 0]))]) ⟨hx, hb, hml, hown, htg⟩ (c_X6_refuse l D E G s.heap.size a0 (-5) a0_now a0_kept a0_ways a0_shelves a0_tape a0_reader a0_refusals a0_bestPack) (cwV 1 htg (oh_gV q_296 q_298 q_0 q_66 q_299) rfl rfl rfl pdVX6_refuse ⟨Nat.le_of_ble_eq_true rfl, Nat.le_of_ble_eq_true rfl⟩) hK hP hD hG hS hA [0, 2] [1] rfl rfl (by decide) (by decide) (by decide) (va_recv hK hP (ci := 6) (q0 := 0) rfl rfl) rfl hl.1 rfl (Nat.le_of_ble_eq_true rfl) dX6_under_41 ⟨Nat.le_of_ble_eq_true rfl, Nat.le_of_ble_eq_true rfl⟩ (fun r_1 u H locs hw hP hD hS => ?_)
    subst hw
    have hP : va_P D vwCl [(a0_now, .inr (0, [.ref a0_now_counts, .ref a0_now_roads, .ref a0_now_bridges, .ref a0_now_waggons, .ref a0_now_parts, .ref a0_now_settings, .ref a0_now_trip, .int 0])), (a0, .inr (6, [.ref a0_now, .ref a0_kept, .int 0, .ref a0_ways, .ref a0_shelves, .ref a0_tape, .ref a0_reader, .ref a0_refusals, .ref a0_bestPack]))] H := hP
    have hD : va_D A [(a0_now, .inr (0, [.ref a0_now_counts, .ref a0_now_roads, .ref a0_now_bridges, .ref a0_now_waggons, .ref a0_now_parts, .ref a0_now_settings, .ref a0_now_trip, .int 0])), (a0, .inr (6, [.ref a0_now, .ref a0_kept, .int 0, .ref a0_ways, .ref a0_shelves, .ref a0_tape, .ref a0_reader, .ref a0_refusals, .ref a0_bestPack]))] := hD
    refine W.widen (k := 0) (n := 0) (Nat.le_refl _) (Nat.le_refl _) ?_
    refine W.widen (k := 0) (n := 0) (Nat.le_of_ble_eq_true rfl) (Nat.le_of_ble_eq_true rfl) ?_
    exact W.iret (v := (-5)) hx hb hr (fun t ht hW => ⟨⟨(-5), (), rfl, by unfold fX6_under; rw [if_neg c_1], ⟨by rw [ht]; exact hP.sub [] rfl, hD.sub [] (by decide) rfl⟩⟩, hS.F ht⟩) hS.2.2 dX6_under_44
  · refine lv_aload_n hx hb dX6_under_9 rfl (lv_at hl 0 rfl) ?_
    refine lv_bipush (v := (-2)) hx hb dX6_under_10 (by decide) ?_
    refine oh_mV (As := [.int (-2)]) (rest := []) (wr := [(a0_now, .inr (0, [.ref a0_now_counts, .ref a0_now_roads, .ref a0_now_bridges, .ref a0_now_waggons, .ref a0_now_parts, .ref a0_now_settings, .ref a0_now_trip, .int 0]))]) ⟨hx, hb, hml, hown, htg⟩ (c_X6_refuse l D E G s.heap.size a0 (-2) a0_now a0_kept a0_ways a0_shelves a0_tape a0_reader a0_refusals a0_bestPack) (cwV 1 htg (oh_gV q_296 q_298 q_0 q_66 q_299) rfl rfl rfl pdVX6_refuse ⟨Nat.le_of_ble_eq_true rfl, Nat.le_of_ble_eq_true rfl⟩) hK hP hD hG hS hA [0, 2] [1] rfl rfl (by decide) (by decide) (by decide) (va_recv hK hP (ci := 6) (q0 := 0) rfl rfl) rfl hl.1 rfl (Nat.le_of_ble_eq_true rfl) dX6_under_12 ⟨Nat.le_of_ble_eq_true rfl, Nat.le_of_ble_eq_true rfl⟩ (fun r_2 u H locs hw hP hD hS => ?_)
    subst hw
    have hP : va_P D vwCl [(a0_now, .inr (0, [.ref a0_now_counts, .ref a0_now_roads, .ref a0_now_bridges, .ref a0_now_waggons, .ref a0_now_parts, .ref a0_now_settings, .ref a0_now_trip, .int 0])), (a0, .inr (6, [.ref a0_now, .ref a0_kept, .int 0, .ref a0_ways, .ref a0_shelves, .ref a0_tape, .ref a0_reader, .ref a0_refusals, .ref a0_bestPack]))] H := hP
    have hD : va_D A [(a0_now, .inr (0, [.ref a0_now_counts, .ref a0_now_roads, .ref a0_now_bridges, .ref a0_now_waggons, .ref a0_now_parts, .ref a0_now_settings, .ref a0_now_trip, .int 0])), (a0, .inr (6, [.ref a0_now, .ref a0_kept, .int 0, .ref a0_ways, .ref a0_shelves, .ref a0_tape, .ref a0_reader, .ref a0_refusals, .ref a0_bestPack]))] := hD
    refine W.widen (k := 0) (n := 0) (Nat.le_refl _) (Nat.le_refl _) ?_
    refine W.widen (k := 0) (n := 0) (Nat.le_of_ble_eq_true rfl) (Nat.le_of_ble_eq_true rfl) ?_
    exact W.iret (v := (-2)) hx hb hr (fun t ht hW => ⟨⟨(-2), (), rfl, by unfold fX6_under; rw [if_pos c_1], ⟨by rw [ht]; exact hP.sub [] rfl, hD.sub [] (by decide) rfl⟩⟩, hS.F ht⟩) hS.2.2 dX6_under_15
set_option maxHeartbeats 4000000 in
set_option maxRecDepth 100000 in
theorem c_X6_back (l : Launch) (D : va_G) (E : Nat → ClassId) (G : Nat → Nat) (sz : Nat) (a0 : Nat) (a0_now : Nat) (a0_kept : Nat) (a0_ways : Nat) (a0_shelves : Nat) (a0_tape : Nat) (a0_reader : Nat) (a0_refusals : Nat) (a0_bestPack : Nat) : Met l yX6_back (oh_w yX6_back cX6_back 1 (some .int)) ({ frames := 2, cells := 0, slots := 0, locals := 44 }) (oh_Pm D E G [.ref a0] [(a0, .inr (6, [.ref a0_now, .ref a0_kept, .int 0, .ref a0_ways, .ref a0_shelves, .ref a0_tape, .ref a0_reader, .ref a0_refusals, .ref a0_bestPack])), (a0_refusals, .inl (E 0, 5, .inl (fun _ => 0)))] sz) (va_Qi (fun r (_ : Unit) => r = (-5)) (oh_B D (va_A [(a0, .inr (6, [.ref a0_now, .ref a0_kept, .int 0, .ref a0_ways, .ref a0_shelves, .ref a0_tape, .ref a0_reader, .ref a0_refusals, .ref a0_bestPack])), (a0_refusals, .inl (E 0, 5, .inl (fun _ => 0)))] sz) (fun _ => [])) (va_A [(a0, .inr (6, [.ref a0_now, .ref a0_kept, .int 0, .ref a0_ways, .ref a0_shelves, .ref a0_tape, .ref a0_reader, .ref a0_refusals, .ref a0_bestPack])), (a0_refusals, .inl (E 0, 5, .inl (fun _ => 0)))] sz)) 0 0 (va_A [(a0, .inr (6, [.ref a0_now, .ref a0_kept, .int 0, .ref a0_ways, .ref a0_shelves, .ref a0_tape, .ref a0_reader, .ref a0_refusals, .ref a0_bestPack])), (a0_refusals, .inl (E 0, 5, .inl (fun _ => 0)))] sz) := by
  refine Met.ofW (cc := cX6_back) (maxL := 1) (ret := (some .int)) (by decide) rfl ?_
  intro p e s m args below meth c s₁ B hml hv
  obtain ⟨rfl, hsz, hP, hK, hD0, hG⟩ := hv
  have hx := B.exec
  have hb := B.bytes
  have hr := B.returns
  have hts := atoms_spec (ws := (oh_w yX6_back cX6_back 1 (some .int))) B.pre
  have htg : ∀ w ∈ oh_t, w.before _ s = true := fun w h => hts w (List.mem_cons_of_mem _ h)
  have hown : s.vm.findClass RX6 = some m.cls := findClass_of_methodNamed B.named
  have hlocks := B.notSynchronized
  subst hsz
  have hD := hD0.self (sz := s.heap.size)
  generalize hAe : va_A [(a0, .inr (6, [.ref a0_now, .ref a0_kept, .int 0, .ref a0_ways, .ref a0_shelves, .ref a0_tape, .ref a0_reader, .ref a0_refusals, .ref a0_bestPack])), (a0_refusals, .inl (E 0, 5, .inl (fun _ => 0)))] s.heap.size = A at hD hG ⊢
  have hA : ∀ q : Nat, s.heap.size ≤ q → A q := fun q h => by rw [← hAe]; exact Or.inr h
  have hS : va_S A s.heap s.heap [] := va_S.rf
  have hP : va_P D vwCl [(a0, .inr (6, [.ref a0_now, .ref a0_kept, .int 0, .ref a0_ways, .ref a0_shelves, .ref a0_tape, .ref a0_reader, .ref a0_refusals, .ref a0_bestPack])), (a0_refusals, .inl (E 0, 5, .inl (fun _ => 0)))] s.heap := hP
  have hl := lv_entry ([.ref a0]) (n := 1) (Nat.le_of_ble_eq_true rfl)
  rw [lg_entry_eq]
  generalize (lg_sl ([.ref a0]) ++ List.replicate (1 - (lg_sl ([.ref a0])).length) Slot.unset).toArray = ls at hl ⊢
  have hl : lv_has ls 1 [(0, .ref a0)] := hl
  refine lv_aload_n hx hb dX6_back_0 rfl (lv_at hl 0 rfl) ?_
  refine va_get (D := D) (ci := 6) (v := .int 0) (C := RX6) (T := TX6) (N := 9) hx hb htg ig_6 hown hK hP 0 rfl rfl 2 (by decide) (htg _ q_260) (fun _ h9 => h9) rfl dX6_back_1 ?_
  refine lv_if_ne (tgt := 14) hx hb dX6_back_4 (by decide) (fun c => absurd (show (0 : Int32) = 0 from by decide) c) (fun _ => ?_)
  refine lv_aload_n hx hb dX6_back_7 rfl (lv_at hl 0 rfl) ?_
  refine lv_bipush (v := (-5)) hx hb dX6_back_8 (by decide) ?_
  refine oh_mV (As := [.int (-5)]) (rest := []) (wr := []) ⟨hx, hb, hml, hown, htg⟩ (c_X6_refuse l D E G s.heap.size a0 (-5) a0_now a0_kept a0_ways a0_shelves a0_tape a0_reader a0_refusals a0_bestPack) (cwV 1 htg (oh_gV q_296 q_298 q_0 q_66 q_299) rfl rfl rfl pdVX6_refuse ⟨Nat.le_of_ble_eq_true rfl, Nat.le_of_ble_eq_true rfl⟩) hK hP hD hG hS hA [0, 1] [] rfl rfl (by decide) (by decide) (by decide) (va_recv hK hP (ci := 6) (q0 := 0) rfl rfl) rfl hl.1 rfl (Nat.le_of_ble_eq_true rfl) dX6_back_10 ⟨Nat.le_of_ble_eq_true rfl, Nat.le_of_ble_eq_true rfl⟩ (fun r_1 u H locs hw hP hD hS => ?_)
  subst hw
  have hP : va_P D vwCl [(a0, .inr (6, [.ref a0_now, .ref a0_kept, .int 0, .ref a0_ways, .ref a0_shelves, .ref a0_tape, .ref a0_reader, .ref a0_refusals, .ref a0_bestPack]))] H := hP
  have hD : va_D A [(a0, .inr (6, [.ref a0_now, .ref a0_kept, .int 0, .ref a0_ways, .ref a0_shelves, .ref a0_tape, .ref a0_reader, .ref a0_refusals, .ref a0_bestPack]))] := hD
  refine W.widen (k := 0) (n := 0) (Nat.le_refl _) (Nat.le_refl _) ?_
  refine W.widen (k := 0) (n := 0) (Nat.le_of_ble_eq_true rfl) (Nat.le_of_ble_eq_true rfl) ?_
  exact W.iret (v := (-5)) hx hb hr (fun t ht hW => ⟨⟨(-5), (), rfl, rfl, ⟨by rw [ht]; exact hP.sub [] rfl, hD.sub [] (by decide) rfl⟩⟩, hS.F ht⟩) hS.2.2 dX6_back_13
set_option maxHeartbeats 4000000 in
set_option maxRecDepth 100000 in
theorem c_X6_wipe (l : Launch) (D : va_G) (E : Nat → ClassId) (G : Nat → Nat) (sz : Nat) (a0 : Nat) (a0_now : Nat) (a0_kept : Nat) (a0_ways : Nat) (a0_shelves : Nat) (a0_tape : Nat) (a0_reader : Nat) (a0_refusals : Nat) (a0_bestPack : Nat) (a0_tape_bytes : Nat) : Met l yX6_wipe (oh_w yX6_wipe cX6_wipe 2 (some .int)) ({ frames := 0, cells := 0, slots := 0, locals := 0 }) (oh_Pm D E G [.ref a0] [(a0, .inr (6, [.ref a0_now, .ref a0_kept, .int 0, .ref a0_ways, .ref a0_shelves, .ref a0_tape, .ref a0_reader, .ref a0_refusals, .ref a0_bestPack])), (a0_tape, .inr (4, [.ref a0_tape_bytes, .int 0, .int (-1), .int 0, .int 0, .int 0]))] sz) (va_Qi (fun r (_ : Unit) => r = 0) (oh_B D (va_A [(a0, .inr (6, [.ref a0_now, .ref a0_kept, .int 0, .ref a0_ways, .ref a0_shelves, .ref a0_tape, .ref a0_reader, .ref a0_refusals, .ref a0_bestPack])), (a0_tape, .inr (4, [.ref a0_tape_bytes, .int 0, .int (-1), .int 0, .int 0, .int 0]))] sz) (fun _ => [])) (va_A [(a0, .inr (6, [.ref a0_now, .ref a0_kept, .int 0, .ref a0_ways, .ref a0_shelves, .ref a0_tape, .ref a0_reader, .ref a0_refusals, .ref a0_bestPack])), (a0_tape, .inr (4, [.ref a0_tape_bytes, .int 0, .int (-1), .int 0, .int 0, .int 0]))] sz)) 0 0 (va_A [(a0, .inr (6, [.ref a0_now, .ref a0_kept, .int 0, .ref a0_ways, .ref a0_shelves, .ref a0_tape, .ref a0_reader, .ref a0_refusals, .ref a0_bestPack])), (a0_tape, .inr (4, [.ref a0_tape_bytes, .int 0, .int (-1), .int 0, .int 0, .int 0]))] sz) := by
  refine Met.ofW (cc := cX6_wipe) (maxL := 2) (ret := (some .int)) (by decide) rfl ?_
  intro p e s m args below meth c s₁ B hml hv
  obtain ⟨rfl, hsz, hP, hK, hD0, hG⟩ := hv
  have hx := B.exec
  have hb := B.bytes
  have hr := B.returns
  have hts := atoms_spec (ws := (oh_w yX6_wipe cX6_wipe 2 (some .int))) B.pre
  have htg : ∀ w ∈ oh_t, w.before _ s = true := fun w h => hts w (List.mem_cons_of_mem _ h)
  have hown : s.vm.findClass RX6 = some m.cls := findClass_of_methodNamed B.named
  have hlocks := B.notSynchronized
  subst hsz
  have hD := hD0.self (sz := s.heap.size)
  generalize hAe : va_A [(a0, .inr (6, [.ref a0_now, .ref a0_kept, .int 0, .ref a0_ways, .ref a0_shelves, .ref a0_tape, .ref a0_reader, .ref a0_refusals, .ref a0_bestPack])), (a0_tape, .inr (4, [.ref a0_tape_bytes, .int 0, .int (-1), .int 0, .int 0, .int 0]))] s.heap.size = A at hD hG ⊢
  have hA : ∀ q : Nat, s.heap.size ≤ q → A q := fun q h => by rw [← hAe]; exact Or.inr h
  have hS : va_S A s.heap s.heap [] := va_S.rf
  have hP : va_P D vwCl [(a0, .inr (6, [.ref a0_now, .ref a0_kept, .int 0, .ref a0_ways, .ref a0_shelves, .ref a0_tape, .ref a0_reader, .ref a0_refusals, .ref a0_bestPack])), (a0_tape, .inr (4, [.ref a0_tape_bytes, .int 0, .int (-1), .int 0, .int 0, .int 0]))] s.heap := hP
  have hl := lv_entry ([.ref a0]) (n := 2) (Nat.le_of_ble_eq_true rfl)
  rw [lg_entry_eq]
  generalize (lg_sl ([.ref a0]) ++ List.replicate (2 - (lg_sl ([.ref a0])).length) Slot.unset).toArray = ls at hl ⊢
  have hl : lv_has ls 2 [(0, .ref a0)] := hl
  refine lv_aload_n hx hb dX6_wipe_0 rfl (lv_at hl 0 rfl) ?_
  refine va_get (D := D) (ci := 6) (v := .ref a0_tape) (C := RX6) (T := TX6) (N := 9) hx hb htg ig_6 hown hK hP 0 rfl rfl 5 (by decide) (htg _ q_263) (fun _ h9 => h9) rfl dX6_wipe_1 ?_
  refine va_get (D := D) (ci := 4) (v := .int 0) (C := RX4) (T := TX4) (N := 6) hx hb htg ig_4 hown hK hP 1 rfl rfl 1 (by decide) (htg _ q_219) (fun _ h9 => h9) rfl dX6_wipe_4 ?_
  refine lv_istore_n (lv' := [(1, .int 0), (0, .ref a0)]) hx hb dX6_wipe_7 rfl hl (by decide) rfl (fun ls hl => ?_)
  refine lv_aload_n hx hb dX6_wipe_8 rfl (lv_at hl 1 rfl) ?_
  refine va_get (D := D) (ci := 6) (v := .ref a0_tape) (C := RX6) (T := TX6) (N := 9) hx hb htg ig_6 hown hK hP 0 rfl rfl 5 (by decide) (htg _ q_263) (fun _ h9 => h9) rfl dX6_wipe_9 ?_
  refine lv_iconst (v := 0) hx hb dX6_wipe_12 (by decide) ?_
  refine va_put (D := D) (ci := 4) (v := .int 0) (ty := .int) (C := RX4) (T := TX4) (N := 6) hx hb htg ig_4 tyX4 tyX4_ok nmX4 hown hK hP hD hS 1 rfl rfl 1 (by decide) (htg _ q_219) (fun _ h9 => h9) rfl (by decide +kernel) rfl rfl (Nat.le_of_ble_eq_true rfl) dX6_wipe_13 (fun H locs hP hD hS => ?_)
  have hP : va_P D vwCl [(a0, .inr (6, [.ref a0_now, .ref a0_kept, .int 0, .ref a0_ways, .ref a0_shelves, .ref a0_tape, .ref a0_reader, .ref a0_refusals, .ref a0_bestPack])), (a0_tape, .inr (4, [.ref a0_tape_bytes, .int 0, .int (-1), .int 0, .int 0, .int 0]))] H := hP
  have hD : va_D A [(a0, .inr (6, [.ref a0_now, .ref a0_kept, .int 0, .ref a0_ways, .ref a0_shelves, .ref a0_tape, .ref a0_reader, .ref a0_refusals, .ref a0_bestPack])), (a0_tape, .inr (4, [.ref a0_tape_bytes, .int 0, .int (-1), .int 0, .int 0, .int 0]))] := hD
  refine lv_iload_n hx hb dX6_wipe_16 rfl (lv_at hl 0 rfl) ?_
  refine W.widen (k := 0) (n := 0) (Nat.le_of_ble_eq_true rfl) (Nat.le_of_ble_eq_true rfl) ?_
  exact W.iret (v := 0) hx hb hr (fun t ht hW => ⟨⟨0, (), rfl, rfl, ⟨by rw [ht]; exact hP.sub [] rfl, hD.sub [] (by decide) rfl⟩⟩, hS.F ht⟩) hS.2.2 dX6_wipe_17
def fX6_ask (v_a : Int32) (v_b : Int32) : Int32 :=
  if (fX6_within v_a 0 2) = 0 then (-2) else if (fX6_within v_b 0 (oh_maxs (v_a).toNatClampNeg)) = 0 then (-2) else (upd (upd (fun _ => 0) 0 100) 1 2) (v_a).toNatClampNeg
set_option maxHeartbeats 4000000 in
set_option maxRecDepth 100000 in
theorem c_X6_ask (l : Launch) (D : va_G) (E : Nat → ClassId) (G : Nat → Nat) (sz : Nat) (a0 : Nat) (v_a : Int32) (v_b : Int32) (a0_now : Nat) (a0_kept : Nat) (a0_ways : Nat) (a0_shelves : Nat) (a0_tape : Nat) (a0_reader : Nat) (a0_refusals : Nat) (a0_bestPack : Nat) (a0_now_counts : Nat) (a0_now_roads : Nat) (a0_now_bridges : Nat) (a0_now_waggons : Nat) (a0_now_parts : Nat) (a0_now_settings : Nat) (a0_now_trip : Nat) : Met l yX6_ask (oh_w yX6_ask cX6_ask 4 (some .int)) ({ frames := 2, cells := 0, slots := 0, locals := 44 }) (oh_Pm D E G [.ref a0, .int v_a, .int v_b] [(a0, .inr (6, [.ref a0_now, .ref a0_kept, .int 0, .ref a0_ways, .ref a0_shelves, .ref a0_tape, .ref a0_reader, .ref a0_refusals, .ref a0_bestPack])), (a0_now, .inr (0, [.ref a0_now_counts, .ref a0_now_roads, .ref a0_now_bridges, .ref a0_now_waggons, .ref a0_now_parts, .ref a0_now_settings, .ref a0_now_trip, .int 0])), (a0_now_settings, .inl (E 0, 3, .inl (upd (upd (fun _ => 0) 0 100) 1 2))), (a0_refusals, .inl (E 0, 5, .inl (fun _ => 0)))] sz) (va_Qi (fun r (_ : Unit) => r = fX6_ask v_a v_b) (oh_B D (va_A [(a0, .inr (6, [.ref a0_now, .ref a0_kept, .int 0, .ref a0_ways, .ref a0_shelves, .ref a0_tape, .ref a0_reader, .ref a0_refusals, .ref a0_bestPack])), (a0_now, .inr (0, [.ref a0_now_counts, .ref a0_now_roads, .ref a0_now_bridges, .ref a0_now_waggons, .ref a0_now_parts, .ref a0_now_settings, .ref a0_now_trip, .int 0])), (a0_now_settings, .inl (E 0, 3, .inl (upd (upd (fun _ => 0) 0 100) 1 2))), (a0_refusals, .inl (E 0, 5, .inl (fun _ => 0)))] sz) (fun _ => [])) (va_A [(a0, .inr (6, [.ref a0_now, .ref a0_kept, .int 0, .ref a0_ways, .ref a0_shelves, .ref a0_tape, .ref a0_reader, .ref a0_refusals, .ref a0_bestPack])), (a0_now, .inr (0, [.ref a0_now_counts, .ref a0_now_roads, .ref a0_now_bridges, .ref a0_now_waggons, .ref a0_now_parts, .ref a0_now_settings, .ref a0_now_trip, .int 0])), (a0_now_settings, .inl (E 0, 3, .inl (upd (upd (fun _ => 0) 0 100) 1 2))), (a0_refusals, .inl (E 0, 5, .inl (fun _ => 0)))] sz)) 0 0 (va_A [(a0, .inr (6, [.ref a0_now, .ref a0_kept, .int 0, .ref a0_ways, .ref a0_shelves, .ref a0_tape, .ref a0_reader, .ref a0_refusals, .ref a0_bestPack])), (a0_now, .inr (0, [.ref a0_now_counts, .ref a0_now_roads, .ref a0_now_bridges, .ref a0_now_waggons, .ref a0_now_parts, .ref a0_now_settings, .ref a0_now_trip, .int 0])), (a0_now_settings, .inl (E 0, 3, .inl (upd (upd (fun _ => 0) 0 100) 1 2))), (a0_refusals, .inl (E 0, 5, .inl (fun _ => 0)))] sz) := by
  refine Met.ofW (cc := cX6_ask) (maxL := 4) (ret := (some .int)) (by decide) rfl ?_
  intro p e s m args below meth c s₁ B hml hv
  obtain ⟨rfl, hsz, hP, hK, hD0, hG⟩ := hv
  have hx := B.exec
  have hb := B.bytes
  have hr := B.returns
  have hts := atoms_spec (ws := (oh_w yX6_ask cX6_ask 4 (some .int))) B.pre
  have htg : ∀ w ∈ oh_t, w.before _ s = true := fun w h => hts w (List.mem_cons_of_mem _ h)
  have hown : s.vm.findClass RX6 = some m.cls := findClass_of_methodNamed B.named
  have hlocks := B.notSynchronized
  subst hsz
  have hD := hD0.self (sz := s.heap.size)
  generalize hAe : va_A [(a0, .inr (6, [.ref a0_now, .ref a0_kept, .int 0, .ref a0_ways, .ref a0_shelves, .ref a0_tape, .ref a0_reader, .ref a0_refusals, .ref a0_bestPack])), (a0_now, .inr (0, [.ref a0_now_counts, .ref a0_now_roads, .ref a0_now_bridges, .ref a0_now_waggons, .ref a0_now_parts, .ref a0_now_settings, .ref a0_now_trip, .int 0])), (a0_now_settings, .inl (E 0, 3, .inl (upd (upd (fun _ => 0) 0 100) 1 2))), (a0_refusals, .inl (E 0, 5, .inl (fun _ => 0)))] s.heap.size = A at hD hG ⊢
  have hA : ∀ q : Nat, s.heap.size ≤ q → A q := fun q h => by rw [← hAe]; exact Or.inr h
  have hS : va_S A s.heap s.heap [] := va_S.rf
  have hP : va_P D vwCl [(a0, .inr (6, [.ref a0_now, .ref a0_kept, .int 0, .ref a0_ways, .ref a0_shelves, .ref a0_tape, .ref a0_reader, .ref a0_refusals, .ref a0_bestPack])), (a0_now, .inr (0, [.ref a0_now_counts, .ref a0_now_roads, .ref a0_now_bridges, .ref a0_now_waggons, .ref a0_now_parts, .ref a0_now_settings, .ref a0_now_trip, .int 0])), (a0_now_settings, .inl (E 0, 3, .inl (upd (upd (fun _ => 0) 0 100) 1 2))), (a0_refusals, .inl (E 0, 5, .inl (fun _ => 0)))] s.heap := hP
  have hl := lv_entry ([.ref a0, .int v_a, .int v_b]) (n := 4) (Nat.le_of_ble_eq_true rfl)
  rw [lg_entry_eq]
  generalize (lg_sl ([.ref a0, .int v_a, .int v_b]) ++ List.replicate (4 - (lg_sl ([.ref a0, .int v_a, .int v_b])).length) Slot.unset).toArray = ls at hl ⊢
  have hl : lv_has ls 4 [(0, .ref a0), (1, .int v_a), (2, .int v_b)] := hl
  refine lv_iload_n hx hb dX6_ask_0 rfl (lv_at hl 1 rfl) ?_
  refine lv_iconst (v := 0) hx hb dX6_ask_1 (by decide) ?_
  refine lv_iconst (v := 2) hx hb dX6_ask_2 (by decide) ?_
  refine oh_pS (As := [.int v_a, .int 0, .int 2]) (rest := []) (v := fX6_within v_a 0 2) ⟨hx, hb, hml, hown, htg⟩ (c_X6_within l D E G v_a 0 2) (va_cwS 3 htg (oh_gS q_293 q_294 q_66 q_295) rfl rfl rfl pdX6_within ⟨Nat.le_of_ble_eq_true rfl, Nat.le_of_ble_eq_true rfl⟩) hK (hP.sub (ws' := []) [] rfl) hG hS rfl hl.1 rfl (Nat.le_of_ble_eq_true rfl) dX6_ask_3 ⟨Nat.le_of_ble_eq_true rfl, Nat.le_of_ble_eq_true rfl⟩ ?_
  refine lv_if_eq (tgt := 22) hx hb dX6_ask_6 (by decide) (fun (c_1 : (fX6_within v_a 0 2) = 0) => ?_) (fun (c_1 : ¬ ((fX6_within v_a 0 2) = 0)) => ?_)
  · refine lv_aload_n hx hb dX6_ask_22 rfl (lv_at hl 0 rfl) ?_
    refine lv_bipush (v := (-2)) hx hb dX6_ask_23 (by decide) ?_
    refine oh_mV (As := [.int (-2)]) (rest := []) (wr := [(a0_now, .inr (0, [.ref a0_now_counts, .ref a0_now_roads, .ref a0_now_bridges, .ref a0_now_waggons, .ref a0_now_parts, .ref a0_now_settings, .ref a0_now_trip, .int 0])), (a0_now_settings, .inl (E 0, 3, .inl (upd (upd (fun _ => 0) 0 100) 1 2)))]) ⟨hx, hb, hml, hown, htg⟩ (c_X6_refuse l D E G s.heap.size a0 (-2) a0_now a0_kept a0_ways a0_shelves a0_tape a0_reader a0_refusals a0_bestPack) (cwV 1 htg (oh_gV q_296 q_298 q_0 q_66 q_299) rfl rfl rfl pdVX6_refuse ⟨Nat.le_of_ble_eq_true rfl, Nat.le_of_ble_eq_true rfl⟩) hK hP hD hG hS hA [0, 3] [1, 2] rfl rfl (by decide) (by decide) (by decide) (va_recv hK hP (ci := 6) (q0 := 0) rfl rfl) rfl hl.1 rfl (Nat.le_of_ble_eq_true rfl) dX6_ask_25 ⟨Nat.le_of_ble_eq_true rfl, Nat.le_of_ble_eq_true rfl⟩ (fun r_1 u H locs hw hP hD hS => ?_)
    subst hw
    have hP : va_P D vwCl [(a0_now, .inr (0, [.ref a0_now_counts, .ref a0_now_roads, .ref a0_now_bridges, .ref a0_now_waggons, .ref a0_now_parts, .ref a0_now_settings, .ref a0_now_trip, .int 0])), (a0_now_settings, .inl (E 0, 3, .inl (upd (upd (fun _ => 0) 0 100) 1 2))), (a0, .inr (6, [.ref a0_now, .ref a0_kept, .int 0, .ref a0_ways, .ref a0_shelves, .ref a0_tape, .ref a0_reader, .ref a0_refusals, .ref a0_bestPack]))] H := hP
    have hD : va_D A [(a0_now, .inr (0, [.ref a0_now_counts, .ref a0_now_roads, .ref a0_now_bridges, .ref a0_now_waggons, .ref a0_now_parts, .ref a0_now_settings, .ref a0_now_trip, .int 0])), (a0_now_settings, .inl (E 0, 3, .inl (upd (upd (fun _ => 0) 0 100) 1 2))), (a0, .inr (6, [.ref a0_now, .ref a0_kept, .int 0, .ref a0_ways, .ref a0_shelves, .ref a0_tape, .ref a0_reader, .ref a0_refusals, .ref a0_bestPack]))] := hD
    refine W.widen (k := 0) (n := 0) (Nat.le_refl _) (Nat.le_refl _) ?_
    refine W.widen (k := 0) (n := 0) (Nat.le_of_ble_eq_true rfl) (Nat.le_of_ble_eq_true rfl) ?_
    exact W.iret (v := (-2)) hx hb hr (fun t ht hW => ⟨⟨(-2), (), rfl, by unfold fX6_ask; rw [if_pos c_1], ⟨by rw [ht]; exact hP.sub [] rfl, hD.sub [] (by decide) rfl⟩⟩, hS.F ht⟩) hS.2.2 dX6_ask_28
  · refine lv_iload_n hx hb dX6_ask_9 rfl (lv_at hl 2 rfl) ?_
    refine lv_iconst (v := 0) hx hb dX6_ask_10 (by decide) ?_
    refine va_gets hx hb hG.2.2.2.2.1.1 hS hown (htg _ q_468) (fun _ h9 => h9) dX6_ask_11 ?_
    refine lv_iload_n hx hb dX6_ask_14 rfl (lv_at hl 1 rfl) ?_
    refine va_ti (v := .int (oh_maxs (v_a).toNatClampNeg)) hx hb hG.2.2.2.2.1.2 hS (oh_win c_1 (by decide)) rfl dX6_ask_15 ?_
    refine oh_pS (As := [.int v_b, .int 0, .int (oh_maxs (v_a).toNatClampNeg)]) (rest := []) (v := fX6_within v_b 0 (oh_maxs (v_a).toNatClampNeg)) ⟨hx, hb, hml, hown, htg⟩ (c_X6_within l D E G v_b 0 (oh_maxs (v_a).toNatClampNeg)) (va_cwS 3 htg (oh_gS q_293 q_294 q_66 q_295) rfl rfl rfl pdX6_within ⟨Nat.le_of_ble_eq_true rfl, Nat.le_of_ble_eq_true rfl⟩) hK (hP.sub (ws' := []) [] rfl) hG hS rfl hl.1 rfl (Nat.le_of_ble_eq_true rfl) dX6_ask_16 ⟨Nat.le_of_ble_eq_true rfl, Nat.le_of_ble_eq_true rfl⟩ ?_
    refine lv_if_ne (tgt := 29) hx hb dX6_ask_19 (by decide) (fun (c_2 : ¬ ((fX6_within v_b 0 (oh_maxs (v_a).toNatClampNeg)) = 0)) => ?_) (fun (c_2 : (fX6_within v_b 0 (oh_maxs (v_a).toNatClampNeg)) = 0) => ?_)
    · refine lv_aload_n hx hb dX6_ask_29 rfl (lv_at hl 0 rfl) ?_
      refine va_get (D := D) (ci := 6) (v := .ref a0_now) (C := RX6) (T := TX6) (N := 9) hx hb htg ig_6 hown hK hP 0 rfl rfl 0 (by decide) (htg _ q_258) (fun _ h9 => h9) rfl dX6_ask_30 ?_
      refine va_get (D := D) (ci := 0) (v := .ref a0_now_settings) (C := RX0) (T := TX0) (N := 8) hx hb htg ig_0 hown hK hP 1 rfl rfl 5 (by decide) (htg _ q_110) (fun _ h9 => h9) rfl dX6_ask_33 ?_
      refine lv_iload_n hx hb dX6_ask_36 rfl (lv_at hl 1 rfl) ?_
      refine va_iald hx hb hK hP 2 0 rfl rfl (oh_win c_1 (by decide)) dX6_ask_37 ?_
      refine lv_istore_n (lv' := [(3, .int ((upd (upd (fun _ => 0) 0 100) 1 2) (v_a).toNatClampNeg)), (0, .ref a0), (1, .int v_a), (2, .int v_b)]) hx hb dX6_ask_38 rfl hl (by decide) rfl (fun ls hl => ?_)
      refine lv_aload_n hx hb dX6_ask_39 rfl (lv_at hl 1 rfl) ?_
      refine va_get (D := D) (ci := 6) (v := .ref a0_now) (C := RX6) (T := TX6) (N := 9) hx hb htg ig_6 hown hK hP 0 rfl rfl 0 (by decide) (htg _ q_258) (fun _ h9 => h9) rfl dX6_ask_40 ?_
      refine va_get (D := D) (ci := 0) (v := .ref a0_now_settings) (C := RX0) (T := TX0) (N := 8) hx hb htg ig_0 hown hK hP 1 rfl rfl 5 (by decide) (htg _ q_110) (fun _ h9 => h9) rfl dX6_ask_43 ?_
      refine lv_iload_n hx hb dX6_ask_46 rfl (lv_at hl 2 rfl) ?_
      refine lv_iload_n hx hb dX6_ask_47 rfl (lv_at hl 3 rfl) ?_
      refine va_iast hx hb hK hP hD hS 2 0 rfl rfl (oh_win c_1 (by decide)) dX6_ask_48 (fun H locs hP hD hS => ?_)
      have hP : va_P D vwCl [(a0, .inr (6, [.ref a0_now, .ref a0_kept, .int 0, .ref a0_ways, .ref a0_shelves, .ref a0_tape, .ref a0_reader, .ref a0_refusals, .ref a0_bestPack])), (a0_now, .inr (0, [.ref a0_now_counts, .ref a0_now_roads, .ref a0_now_bridges, .ref a0_now_waggons, .ref a0_now_parts, .ref a0_now_settings, .ref a0_now_trip, .int 0])), (a0_now_settings, .inl (E 0, 3, .inl (upd (upd (upd (fun _ => 0) 0 100) 1 2) ((v_a).toNatClampNeg) v_b))), (a0_refusals, .inl (E 0, 5, .inl (fun _ => 0)))] H := hP
      have hD : va_D A [(a0, .inr (6, [.ref a0_now, .ref a0_kept, .int 0, .ref a0_ways, .ref a0_shelves, .ref a0_tape, .ref a0_reader, .ref a0_refusals, .ref a0_bestPack])), (a0_now, .inr (0, [.ref a0_now_counts, .ref a0_now_roads, .ref a0_now_bridges, .ref a0_now_waggons, .ref a0_now_parts, .ref a0_now_settings, .ref a0_now_trip, .int 0])), (a0_now_settings, .inl (E 0, 3, .inl (upd (upd (upd (fun _ => 0) 0 100) 1 2) ((v_a).toNatClampNeg) v_b))), (a0_refusals, .inl (E 0, 5, .inl (fun _ => 0)))] := hD
      refine lv_iload_n hx hb dX6_ask_49 rfl (lv_at hl 0 rfl) ?_
      refine W.widen (k := 0) (n := 0) (Nat.le_of_ble_eq_true rfl) (Nat.le_of_ble_eq_true rfl) ?_
      exact W.iret (v := (upd (upd (fun _ => 0) 0 100) 1 2) (v_a).toNatClampNeg) hx hb hr (fun t ht hW => ⟨⟨(upd (upd (fun _ => 0) 0 100) 1 2) (v_a).toNatClampNeg, (), rfl, by unfold fX6_ask; rw [if_neg c_1, if_neg c_2], ⟨by rw [ht]; exact hP.sub [] rfl, hD.sub [] (by decide) rfl⟩⟩, hS.F ht⟩) hS.2.2 dX6_ask_50
    · refine lv_aload_n hx hb dX6_ask_22 rfl (lv_at hl 0 rfl) ?_
      refine lv_bipush (v := (-2)) hx hb dX6_ask_23 (by decide) ?_
      refine oh_mV (As := [.int (-2)]) (rest := []) (wr := [(a0_now, .inr (0, [.ref a0_now_counts, .ref a0_now_roads, .ref a0_now_bridges, .ref a0_now_waggons, .ref a0_now_parts, .ref a0_now_settings, .ref a0_now_trip, .int 0])), (a0_now_settings, .inl (E 0, 3, .inl (upd (upd (fun _ => 0) 0 100) 1 2)))]) ⟨hx, hb, hml, hown, htg⟩ (c_X6_refuse l D E G s.heap.size a0 (-2) a0_now a0_kept a0_ways a0_shelves a0_tape a0_reader a0_refusals a0_bestPack) (cwV 1 htg (oh_gV q_296 q_298 q_0 q_66 q_299) rfl rfl rfl pdVX6_refuse ⟨Nat.le_of_ble_eq_true rfl, Nat.le_of_ble_eq_true rfl⟩) hK hP hD hG hS hA [0, 3] [1, 2] rfl rfl (by decide) (by decide) (by decide) (va_recv hK hP (ci := 6) (q0 := 0) rfl rfl) rfl hl.1 rfl (Nat.le_of_ble_eq_true rfl) dX6_ask_25 ⟨Nat.le_of_ble_eq_true rfl, Nat.le_of_ble_eq_true rfl⟩ (fun r_2 u H locs hw hP hD hS => ?_)
      subst hw
      have hP : va_P D vwCl [(a0_now, .inr (0, [.ref a0_now_counts, .ref a0_now_roads, .ref a0_now_bridges, .ref a0_now_waggons, .ref a0_now_parts, .ref a0_now_settings, .ref a0_now_trip, .int 0])), (a0_now_settings, .inl (E 0, 3, .inl (upd (upd (fun _ => 0) 0 100) 1 2))), (a0, .inr (6, [.ref a0_now, .ref a0_kept, .int 0, .ref a0_ways, .ref a0_shelves, .ref a0_tape, .ref a0_reader, .ref a0_refusals, .ref a0_bestPack]))] H := hP
      have hD : va_D A [(a0_now, .inr (0, [.ref a0_now_counts, .ref a0_now_roads, .ref a0_now_bridges, .ref a0_now_waggons, .ref a0_now_parts, .ref a0_now_settings, .ref a0_now_trip, .int 0])), (a0_now_settings, .inl (E 0, 3, .inl (upd (upd (fun _ => 0) 0 100) 1 2))), (a0, .inr (6, [.ref a0_now, .ref a0_kept, .int 0, .ref a0_ways, .ref a0_shelves, .ref a0_tape, .ref a0_reader, .ref a0_refusals, .ref a0_bestPack]))] := hD
      refine W.widen (k := 0) (n := 0) (Nat.le_refl _) (Nat.le_refl _) ?_
      refine W.widen (k := 0) (n := 0) (Nat.le_of_ble_eq_true rfl) (Nat.le_of_ble_eq_true rfl) ?_
      exact W.iret (v := (-2)) hx hb hr (fun t ht hW => ⟨⟨(-2), (), rfl, by unfold fX6_ask; rw [if_neg c_1, if_pos c_2], ⟨by rw [ht]; exact hP.sub [] rfl, hD.sub [] (by decide) rfl⟩⟩, hS.F ht⟩) hS.2.2 dX6_ask_28
theorem oh_w12 {v : Int32} (h : ¬ fX6_within v 12 16 = 0) : vp_in (v - 12) 5 := by
  rw [vp_in_iff]
  unfold fX6_within at h
  by_cases h1 : v < 12
  · exact absurd (if_pos h1) h
  · rw [if_neg h1] at h
    by_cases h2 : 16 < v
    · exact absurd (if_pos h2) h
    · rw [Int32.lt_iff_toInt_lt] at h1 h2
      have h3 : (12 : Int32).toInt = 12 := by decide
      have h4 : (16 : Int32).toInt = 16 := by decide
      have h5 : (v - 12).toInt = v.toInt - 12 := by
        rw [Int32.toInt_sub, h3]
        apply Int.bmod_eq_of_le <;> omega
      omega
theorem oh_f14 {v : Int32} (h : ¬ fX6_within v 1 4 = 0) : v = 1 ∨ v = 2 ∨ v = 3 ∨ v = 4 := by
  unfold fX6_within at h
  by_cases h1 : v < 1
  · exact absurd (if_pos h1) h
  · rw [if_neg h1] at h
    by_cases h2 : 4 < v
    · exact absurd (if_pos h2) h
    · rw [Int32.lt_iff_toInt_lt] at h1 h2
      have h3 : (1 : Int32).toInt = 1 := by decide
      have h4 : (4 : Int32).toInt = 4 := by decide
      rcases (show v.toInt = 1 ∨ v.toInt = 2 ∨ v.toInt = 3 ∨ v.toInt = 4 by omega) with h | h | h | h
      · exact Or.inl (Int32.toInt_inj.mp (h.trans (by decide)))
      · exact Or.inr (Or.inl (Int32.toInt_inj.mp (h.trans (by decide))))
      · exact Or.inr (Or.inr (Or.inl (Int32.toInt_inj.mp (h.trans (by decide)))))
      · exact Or.inr (Or.inr (Or.inr (Int32.toInt_inj.mp (h.trans (by decide)))))
theorem oh_f250 {v : Int32} (h : ¬ fX6_within v 1 4 = 0) : 0 + v ≤ 250 := by
  rcases oh_f14 h with rfl | rfl | rfl | rfl <;> decide
def fX6_status (v_a : Int32) : Int32 :=
  if (fX6_within v_a 0 3) = 0 then (if (fX6_within v_a 12 16) = 0 then (if v_a = 4 then 0 else if v_a = 5 then 0 else if v_a = 6 then 0 else if v_a = 7 then 0 else (-1)) else 0) else 0
set_option maxHeartbeats 4000000 in
set_option maxRecDepth 100000 in
theorem c_X6_status (l : Launch) (D : va_G) (E : Nat → ClassId) (G : Nat → Nat) (a0 : Nat) (v_a : Int32) (a0_now : Nat) (a0_kept : Nat) (a0_ways : Nat) (a0_shelves : Nat) (a0_tape : Nat) (a0_reader : Nat) (a0_refusals : Nat) (a0_bestPack : Nat) (a0_now_counts : Nat) (a0_now_roads : Nat) (a0_now_bridges : Nat) (a0_now_waggons : Nat) (a0_now_parts : Nat) (a0_now_settings : Nat) (a0_now_trip : Nat) (a0_tape_bytes : Nat) (a0_shelves_held : Nat) (a0_shelves_size : Nat) (a0_shelves_cells : Nat) : Met l yX6_status (oh_w yX6_status cX6_status 2 (some .int)) ({ frames := 2, cells := 0, slots := 0, locals := 43 }) (oh_Pp D E G [.ref a0, .int v_a] [(a0, .inr (6, [.ref a0_now, .ref a0_kept, .int 0, .ref a0_ways, .ref a0_shelves, .ref a0_tape, .ref a0_reader, .ref a0_refusals, .ref a0_bestPack])), (a0_now, .inr (0, [.ref a0_now_counts, .ref a0_now_roads, .ref a0_now_bridges, .ref a0_now_waggons, .ref a0_now_parts, .ref a0_now_settings, .ref a0_now_trip, .int 0])), (a0_now_counts, .inl (E 0, 4, .inl (fun _ => 0))), (a0_refusals, .inl (E 0, 5, .inl (fun _ => 0))), (a0_tape, .inr (4, [.ref a0_tape_bytes, .int 0, .int (-1), .int 0, .int 0, .int 0])), (a0_shelves, .inr (3, [.ref a0_shelves_held, .ref a0_shelves_size, .ref a0_shelves_cells])), (a0_shelves_held, .inl (E 0, 8, .inl (fun _ => (-1))))]) (vp_Si (fun r => r = fX6_status v_a)) 0 0 (fun _ => False) := by
  refine Met.ofW (cc := cX6_status) (maxL := 2) (ret := (some .int)) (by decide) rfl ?_
  intro p e s m args below meth c s₁ B hml hv
  obtain ⟨rfl, hP, hK, hG⟩ := hv
  have hx := B.exec
  have hb := B.bytes
  have hr := B.returns
  have hts := atoms_spec (ws := (oh_w yX6_status cX6_status 2 (some .int))) B.pre
  have htg : ∀ w ∈ oh_t, w.before _ s = true := fun w h => hts w (List.mem_cons_of_mem _ h)
  have hown : s.vm.findClass RX6 = some m.cls := findClass_of_methodNamed B.named
  have hlocks := B.notSynchronized
  have hS : va_S (fun _ => False) s.heap s.heap [] := va_S.rf
  have hl := lv_entry ([.ref a0, .int v_a]) (n := 2) (Nat.le_of_ble_eq_true rfl)
  rw [lg_entry_eq]
  generalize (lg_sl ([.ref a0, .int v_a]) ++ List.replicate (2 - (lg_sl ([.ref a0, .int v_a])).length) Slot.unset).toArray = ls at hl ⊢
  have hl : lv_has ls 2 [(0, .ref a0), (1, .int v_a)] := hl
  refine lv_iload_n hx hb dX6_status_0 rfl (lv_at hl 1 rfl) ?_
  refine lv_iconst (v := 0) hx hb dX6_status_1 (by decide) ?_
  refine lv_iconst (v := 3) hx hb dX6_status_2 (by decide) ?_
  refine oh_pS (As := [.int v_a, .int 0, .int 3]) (rest := []) (v := fX6_within v_a 0 3) ⟨hx, hb, hml, hown, htg⟩ (c_X6_within l D E G v_a 0 3) (va_cwS 3 htg (oh_gS q_293 q_294 q_66 q_295) rfl rfl rfl pdX6_within ⟨Nat.le_of_ble_eq_true rfl, Nat.le_of_ble_eq_true rfl⟩) hK (hP.sub (ws' := []) [] rfl) hG hS rfl hl.1 rfl (Nat.le_of_ble_eq_true rfl) dX6_status_3 ⟨Nat.le_of_ble_eq_true rfl, Nat.le_of_ble_eq_true rfl⟩ ?_
  refine lv_if_eq (tgt := 19) hx hb dX6_status_6 (by decide) (fun (c_1 : (fX6_within v_a 0 3) = 0) => ?_) (fun (c_1 : ¬ ((fX6_within v_a 0 3) = 0)) => ?_)
  · refine lv_iload_n hx hb dX6_status_19 rfl (lv_at hl 1 rfl) ?_
    refine lv_bipush (v := 12) hx hb dX6_status_20 (by decide) ?_
    refine lv_bipush (v := 16) hx hb dX6_status_22 (by decide) ?_
    refine oh_pS (As := [.int v_a, .int 12, .int 16]) (rest := []) (v := fX6_within v_a 12 16) ⟨hx, hb, hml, hown, htg⟩ (c_X6_within l D E G v_a 12 16) (va_cwS 3 htg (oh_gS q_293 q_294 q_66 q_295) rfl rfl rfl pdX6_within ⟨Nat.le_of_ble_eq_true rfl, Nat.le_of_ble_eq_true rfl⟩) hK (hP.sub (ws' := []) [] rfl) hG hS rfl hl.1 rfl (Nat.le_of_ble_eq_true rfl) dX6_status_24 ⟨Nat.le_of_ble_eq_true rfl, Nat.le_of_ble_eq_true rfl⟩ ?_
    refine lv_if_eq (tgt := 40) hx hb dX6_status_27 (by decide) (fun (c_2 : (fX6_within v_a 12 16) = 0) => ?_) (fun (c_2 : ¬ ((fX6_within v_a 12 16) = 0)) => ?_)
    · refine lv_iload_n hx hb dX6_status_40 rfl (lv_at hl 1 rfl) ?_
      by_cases c_3 : v_a = 4
      · refine lv_tableIn (off := 31) (tgt := 72) hx hb dX6_status_41 (by rw [c_3]; decide) (by rw [c_3]; decide) (by rw [c_3]; decide) (by decide) ?_
        refine lv_aload_n hx hb dX6_status_72 rfl (lv_at hl 0 rfl) ?_
        refine va_get (D := D) (ci := 6) (v := .ref a0_tape) (C := RX6) (T := TX6) (N := 9) hx hb htg ig_6 hown hK hP 0 rfl rfl 5 (by decide) (htg _ q_263) (fun _ h9 => h9) rfl dX6_status_73 ?_
        refine va_get (D := D) (ci := 4) (v := .int 0) (C := RX4) (T := TX4) (N := 6) hx hb htg ig_4 hown hK hP 4 rfl rfl 1 (by decide) (htg _ q_219) (fun _ h9 => h9) rfl dX6_status_76 ?_
        exact W.iret (v := 0) hx hb hr (fun t ht hW => ⟨0, rfl, by unfold fX6_status; rw [if_pos c_1, if_pos c_2, if_pos c_3], ht⟩) (fun q h => by cases h) dX6_status_79
      · by_cases c_4 : v_a = 5
        · refine lv_tableIn (off := 39) (tgt := 80) hx hb dX6_status_41 (by rw [c_4]; decide) (by rw [c_4]; decide) (by rw [c_4]; decide) (by decide) ?_
          refine lv_aload_n hx hb dX6_status_80 rfl (lv_at hl 0 rfl) ?_
          refine va_get (D := D) (ci := 6) (v := .ref a0_shelves) (C := RX6) (T := TX6) (N := 9) hx hb htg ig_6 hown hK hP 0 rfl rfl 4 (by decide) (htg _ q_262) (fun _ h9 => h9) rfl dX6_status_81 ?_
          refine oh_pV (As := []) (rest := []) (v := 0) ⟨hx, hb, hml, hown, htg⟩ (c_X3_countHeld l D E G a0_shelves a0_shelves_held a0_shelves_size a0_shelves_cells) (cwV 0 htg (oh_gV q_955 q_956 q_957 q_70 q_958) rfl rfl rfl pdVX3_countHeld ⟨Nat.le_of_ble_eq_true rfl, Nat.le_of_ble_eq_true rfl⟩) hK (hP.sub (ws' := [(a0_shelves, .inr (3, [.ref a0_shelves_held, .ref a0_shelves_size, .ref a0_shelves_cells])), (a0_shelves_held, .inl (E 0, 8, .inl (fun _ => (-1))))]) [5, 6] rfl) hG hS (va_recv hK hP (ci := 3) (q0 := 5) rfl rfl) rfl hl.1 rfl (Nat.le_of_ble_eq_true rfl) dX6_status_84 ⟨Nat.le_of_ble_eq_true rfl, Nat.le_of_ble_eq_true rfl⟩ ?_
          exact W.iret (v := 0) hx hb hr (fun t ht hW => ⟨0, rfl, by unfold fX6_status; rw [if_pos c_1, if_pos c_2, if_neg c_3, if_pos c_4], ht⟩) (fun q h => by cases h) dX6_status_87
        · by_cases c_5 : v_a = 6
          · refine lv_tableIn (off := 47) (tgt := 88) hx hb dX6_status_41 (by rw [c_5]; decide) (by rw [c_5]; decide) (by rw [c_5]; decide) (by decide) ?_
            refine lv_aload_n hx hb dX6_status_88 rfl (lv_at hl 0 rfl) ?_
            refine va_get (D := D) (ci := 6) (v := .ref a0_now) (C := RX6) (T := TX6) (N := 9) hx hb htg ig_6 hown hK hP 0 rfl rfl 0 (by decide) (htg _ q_258) (fun _ h9 => h9) rfl dX6_status_89 ?_
            refine lv_bipush (v := 7) hx hb dX6_status_92 (by decide) ?_
            refine oh_pV (As := [.int 7]) (rest := []) (v := 0) ⟨hx, hb, hml, hown, htg⟩ (c_X0_countBridges l D E G a0_now 7 a0_now_counts a0_now_roads a0_now_bridges a0_now_waggons a0_now_parts a0_now_settings a0_now_trip) (cwV 1 htg (oh_gV q_959 q_960 q_961 q_67 q_962) rfl rfl rfl pdVX0_countBridges ⟨Nat.le_of_ble_eq_true rfl, Nat.le_of_ble_eq_true rfl⟩) hK (hP.sub (ws' := [(a0_now, .inr (0, [.ref a0_now_counts, .ref a0_now_roads, .ref a0_now_bridges, .ref a0_now_waggons, .ref a0_now_parts, .ref a0_now_settings, .ref a0_now_trip, .int 0])), (a0_now_counts, .inl (E 0, 4, .inl (fun _ => 0)))]) [1, 2] rfl) hG hS (va_recv hK hP (ci := 0) (q0 := 1) rfl rfl) rfl hl.1 rfl (Nat.le_of_ble_eq_true rfl) dX6_status_94 ⟨Nat.le_of_ble_eq_true rfl, Nat.le_of_ble_eq_true rfl⟩ ?_
            exact W.iret (v := 0) hx hb hr (fun t ht hW => ⟨0, rfl, by unfold fX6_status; rw [if_pos c_1, if_pos c_2, if_neg c_3, if_neg c_4, if_pos c_5], ht⟩) (fun q h => by cases h) dX6_status_97
          · by_cases c_6 : v_a = 7
            · refine lv_tableIn (off := 57) (tgt := 98) hx hb dX6_status_41 (by rw [c_6]; decide) (by rw [c_6]; decide) (by rw [c_6]; decide) (by decide) ?_
              refine lv_aload_n hx hb dX6_status_98 rfl (lv_at hl 0 rfl) ?_
              refine va_get (D := D) (ci := 6) (v := .ref a0_now) (C := RX6) (T := TX6) (N := 9) hx hb htg ig_6 hown hK hP 0 rfl rfl 0 (by decide) (htg _ q_258) (fun _ h9 => h9) rfl dX6_status_99 ?_
              refine lv_bipush (v := 8) hx hb dX6_status_102 (by decide) ?_
              refine oh_pV (As := [.int 8]) (rest := []) (v := 0) ⟨hx, hb, hml, hown, htg⟩ (c_X0_countBridges l D E G a0_now 8 a0_now_counts a0_now_roads a0_now_bridges a0_now_waggons a0_now_parts a0_now_settings a0_now_trip) (cwV 1 htg (oh_gV q_959 q_960 q_961 q_67 q_962) rfl rfl rfl pdVX0_countBridges ⟨Nat.le_of_ble_eq_true rfl, Nat.le_of_ble_eq_true rfl⟩) hK (hP.sub (ws' := [(a0_now, .inr (0, [.ref a0_now_counts, .ref a0_now_roads, .ref a0_now_bridges, .ref a0_now_waggons, .ref a0_now_parts, .ref a0_now_settings, .ref a0_now_trip, .int 0])), (a0_now_counts, .inl (E 0, 4, .inl (fun _ => 0)))]) [1, 2] rfl) hG hS (va_recv hK hP (ci := 0) (q0 := 1) rfl rfl) rfl hl.1 rfl (Nat.le_of_ble_eq_true rfl) dX6_status_104 ⟨Nat.le_of_ble_eq_true rfl, Nat.le_of_ble_eq_true rfl⟩ ?_
              exact W.iret (v := 0) hx hb hr (fun t ht hW => ⟨0, rfl, by unfold fX6_status; rw [if_pos c_1, if_pos c_2, if_neg c_3, if_neg c_4, if_neg c_5, if_pos c_6], ht⟩) (fun q h => by cases h) dX6_status_107
            · refine lv_tableOut (tgt := 108) hx hb dX6_status_41 (by have h9 := And.intro (oh_ne c_3 (k := 4) (by decide)) (And.intro (oh_ne c_4 (k := 5) (by decide)) (And.intro (oh_ne c_5 (k := 6) (by decide)) (And.intro (oh_ne c_6 (k := 7) (by decide)) trivial))); omega) (by decide) ?_
              refine lv_iconst (v := (-1)) hx hb dX6_status_108 (by decide) ?_
              exact W.iret (v := (-1)) hx hb hr (fun t ht hW => ⟨(-1), rfl, by unfold fX6_status; rw [if_pos c_1, if_pos c_2, if_neg c_3, if_neg c_4, if_neg c_5, if_neg c_6], ht⟩) (fun q h => by cases h) dX6_status_109
    · refine lv_aload_n hx hb dX6_status_30 rfl (lv_at hl 0 rfl) ?_
      refine va_get (D := D) (ci := 6) (v := .ref a0_refusals) (C := RX6) (T := TX6) (N := 9) hx hb htg ig_6 hown hK hP 0 rfl rfl 7 (by decide) (htg _ q_265) (fun _ h9 => h9) rfl dX6_status_31 ?_
      refine lv_iload_n hx hb dX6_status_34 rfl (lv_at hl 1 rfl) ?_
      refine lv_bipush (v := 12) hx hb dX6_status_35 (by decide) ?_
      refine lv_isub hx hb dX6_status_37 ?_
      refine va_iald hx hb hK hP 3 0 rfl rfl (oh_w12 c_2) dX6_status_38 ?_
      refine oh_nrm (v := 0) (by rfl) ?_
      exact W.iret (v := 0) hx hb hr (fun t ht hW => ⟨0, rfl, by unfold fX6_status; rw [if_pos c_1, if_neg c_2], ht⟩) (fun q h => by cases h) dX6_status_39
  · refine lv_aload_n hx hb dX6_status_9 rfl (lv_at hl 0 rfl) ?_
    refine va_get (D := D) (ci := 6) (v := .ref a0_now) (C := RX6) (T := TX6) (N := 9) hx hb htg ig_6 hown hK hP 0 rfl rfl 0 (by decide) (htg _ q_258) (fun _ h9 => h9) rfl dX6_status_10 ?_
    refine va_get (D := D) (ci := 0) (v := .ref a0_now_counts) (C := RX0) (T := TX0) (N := 8) hx hb htg ig_0 hown hK hP 1 rfl rfl 0 (by decide) (htg _ q_100) (fun _ h9 => h9) rfl dX6_status_13 ?_
    refine lv_iload_n hx hb dX6_status_16 rfl (lv_at hl 1 rfl) ?_
    refine va_iald hx hb hK hP 2 0 rfl rfl (oh_win c_1 (by decide)) dX6_status_17 ?_
    refine oh_nrm (v := 0) (by rfl) ?_
    exact W.iret (v := 0) hx hb hr (fun t ht hW => ⟨0, rfl, by unfold fX6_status; rw [if_neg c_1], ht⟩) (fun q h => by cases h) dX6_status_18
set_option maxHeartbeats 4000000 in
set_option maxRecDepth 100000 in
theorem c_X6_findBest (l : Launch) (D : va_G) (E : Nat → ClassId) (G : Nat → Nat) (sz : Nat) (a0 : Nat) (v_a : Int32) (v_b : Int32) (a0_now : Nat) (a0_kept : Nat) (a0_ways : Nat) (a0_shelves : Nat) (a0_tape : Nat) (a0_reader : Nat) (a0_refusals : Nat) (a0_bestPack : Nat) (a0_now_counts : Nat) (a0_now_roads : Nat) (a0_now_bridges : Nat) (a0_now_waggons : Nat) (a0_now_parts : Nat) (a0_now_settings : Nat) (a0_now_trip : Nat) : Met l yX6_findBest (oh_w yX6_findBest cX6_findBest 6 none) ({ frames := 0, cells := 0, slots := 0, locals := 0 }) (oh_Pm D E G [.ref a0, .int v_a, .int v_b] [(a0, .inr (6, [.ref a0_now, .ref a0_kept, .int 0, .ref a0_ways, .ref a0_shelves, .ref a0_tape, .ref a0_reader, .ref a0_refusals, .ref a0_bestPack])), (a0_now, .inr (0, [.ref a0_now_counts, .ref a0_now_roads, .ref a0_now_bridges, .ref a0_now_waggons, .ref a0_now_parts, .ref a0_now_settings, .ref a0_now_trip, .int 0])), (a0_now_counts, .inl (E 0, 4, .inl (fun _ => 0))), (a0_bestPack, .inl (E 0, 3, .inl (fun _ => 0)))] sz) (va_Qv (fun (_ : Unit) => True) (oh_B D (va_A [(a0, .inr (6, [.ref a0_now, .ref a0_kept, .int 0, .ref a0_ways, .ref a0_shelves, .ref a0_tape, .ref a0_reader, .ref a0_refusals, .ref a0_bestPack])), (a0_now, .inr (0, [.ref a0_now_counts, .ref a0_now_roads, .ref a0_now_bridges, .ref a0_now_waggons, .ref a0_now_parts, .ref a0_now_settings, .ref a0_now_trip, .int 0])), (a0_now_counts, .inl (E 0, 4, .inl (fun _ => 0))), (a0_bestPack, .inl (E 0, 3, .inl (fun _ => 0)))] sz) (fun _ => [(a0, .inr (6, [.ref a0_now, .ref a0_kept, .int 0, .ref a0_ways, .ref a0_shelves, .ref a0_tape, .ref a0_reader, .ref a0_refusals, .ref a0_bestPack])), (a0_now, .inr (0, [.ref a0_now_counts, .ref a0_now_roads, .ref a0_now_bridges, .ref a0_now_waggons, .ref a0_now_parts, .ref a0_now_settings, .ref a0_now_trip, .int 0])), (a0_now_counts, .inl (E 0, 4, .inl (fun _ => 0))), (a0_bestPack, .inl (E 0, 3, .inl (upd (fun _ => 0) 2 1000000000)))])) (va_A [(a0, .inr (6, [.ref a0_now, .ref a0_kept, .int 0, .ref a0_ways, .ref a0_shelves, .ref a0_tape, .ref a0_reader, .ref a0_refusals, .ref a0_bestPack])), (a0_now, .inr (0, [.ref a0_now_counts, .ref a0_now_roads, .ref a0_now_bridges, .ref a0_now_waggons, .ref a0_now_parts, .ref a0_now_settings, .ref a0_now_trip, .int 0])), (a0_now_counts, .inl (E 0, 4, .inl (fun _ => 0))), (a0_bestPack, .inl (E 0, 3, .inl (fun _ => 0)))] sz)) 0 0 (va_A [(a0, .inr (6, [.ref a0_now, .ref a0_kept, .int 0, .ref a0_ways, .ref a0_shelves, .ref a0_tape, .ref a0_reader, .ref a0_refusals, .ref a0_bestPack])), (a0_now, .inr (0, [.ref a0_now_counts, .ref a0_now_roads, .ref a0_now_bridges, .ref a0_now_waggons, .ref a0_now_parts, .ref a0_now_settings, .ref a0_now_trip, .int 0])), (a0_now_counts, .inl (E 0, 4, .inl (fun _ => 0))), (a0_bestPack, .inl (E 0, 3, .inl (fun _ => 0)))] sz) := by
  refine Met.ofW (cc := cX6_findBest) (maxL := 6) (ret := none) (by decide) rfl ?_
  intro p e s m args below meth c s₁ B hml hv
  obtain ⟨rfl, hsz, hP, hK, hD0, hG⟩ := hv
  have hx := B.exec
  have hb := B.bytes
  have hr := B.returns
  have hts := atoms_spec (ws := (oh_w yX6_findBest cX6_findBest 6 none)) B.pre
  have htg : ∀ w ∈ oh_t, w.before _ s = true := fun w h => hts w (List.mem_cons_of_mem _ h)
  have hown : s.vm.findClass RX6 = some m.cls := findClass_of_methodNamed B.named
  have hlocks := B.notSynchronized
  subst hsz
  have hD := hD0.self (sz := s.heap.size)
  generalize hAe : va_A [(a0, .inr (6, [.ref a0_now, .ref a0_kept, .int 0, .ref a0_ways, .ref a0_shelves, .ref a0_tape, .ref a0_reader, .ref a0_refusals, .ref a0_bestPack])), (a0_now, .inr (0, [.ref a0_now_counts, .ref a0_now_roads, .ref a0_now_bridges, .ref a0_now_waggons, .ref a0_now_parts, .ref a0_now_settings, .ref a0_now_trip, .int 0])), (a0_now_counts, .inl (E 0, 4, .inl (fun _ => 0))), (a0_bestPack, .inl (E 0, 3, .inl (fun _ => 0)))] s.heap.size = A at hD hG ⊢
  have hA : ∀ q : Nat, s.heap.size ≤ q → A q := fun q h => by rw [← hAe]; exact Or.inr h
  have hS : va_S A s.heap s.heap [] := va_S.rf
  have hP : va_P D vwCl [(a0, .inr (6, [.ref a0_now, .ref a0_kept, .int 0, .ref a0_ways, .ref a0_shelves, .ref a0_tape, .ref a0_reader, .ref a0_refusals, .ref a0_bestPack])), (a0_now, .inr (0, [.ref a0_now_counts, .ref a0_now_roads, .ref a0_now_bridges, .ref a0_now_waggons, .ref a0_now_parts, .ref a0_now_settings, .ref a0_now_trip, .int 0])), (a0_now_counts, .inl (E 0, 4, .inl (fun _ => 0))), (a0_bestPack, .inl (E 0, 3, .inl (fun _ => 0)))] s.heap := hP
  have hl := lv_entry ([.ref a0, .int v_a, .int v_b]) (n := 6) (Nat.le_of_ble_eq_true rfl)
  rw [lg_entry_eq]
  generalize (lg_sl ([.ref a0, .int v_a, .int v_b]) ++ List.replicate (6 - (lg_sl ([.ref a0, .int v_a, .int v_b])).length) Slot.unset).toArray = ls at hl ⊢
  have hl : lv_has ls 6 [(0, .ref a0), (1, .int v_a), (2, .int v_b)] := hl
  refine lv_aload_n hx hb dX6_findBest_0 rfl (lv_at hl 0 rfl) ?_
  refine va_get (D := D) (ci := 6) (v := .ref a0_bestPack) (C := RX6) (T := TX6) (N := 9) hx hb htg ig_6 hown hK hP 0 rfl rfl 8 (by decide) (htg _ q_266) (fun _ h9 => h9) rfl dX6_findBest_1 ?_
  refine lv_iconst (v := 2) hx hb dX6_findBest_4 (by decide) ?_
  refine lv_ldc (v := 1000000000) hx hb hown (htg _ q_803) dX6_findBest_5 ?_
  refine va_iast hx hb hK hP hD hS 3 0 rfl rfl (show vp_in 2 3 by unfold vp_in; decide) dX6_findBest_7 (fun H locs hP hD hS => ?_)
  have hP : va_P D vwCl [(a0, .inr (6, [.ref a0_now, .ref a0_kept, .int 0, .ref a0_ways, .ref a0_shelves, .ref a0_tape, .ref a0_reader, .ref a0_refusals, .ref a0_bestPack])), (a0_now, .inr (0, [.ref a0_now_counts, .ref a0_now_roads, .ref a0_now_bridges, .ref a0_now_waggons, .ref a0_now_parts, .ref a0_now_settings, .ref a0_now_trip, .int 0])), (a0_now_counts, .inl (E 0, 4, .inl (fun _ => 0))), (a0_bestPack, .inl (E 0, 3, .inl (upd (fun _ => 0) 2 1000000000)))] H := hP
  have hD : va_D A [(a0, .inr (6, [.ref a0_now, .ref a0_kept, .int 0, .ref a0_ways, .ref a0_shelves, .ref a0_tape, .ref a0_reader, .ref a0_refusals, .ref a0_bestPack])), (a0_now, .inr (0, [.ref a0_now_counts, .ref a0_now_roads, .ref a0_now_bridges, .ref a0_now_waggons, .ref a0_now_parts, .ref a0_now_settings, .ref a0_now_trip, .int 0])), (a0_now_counts, .inl (E 0, 4, .inl (fun _ => 0))), (a0_bestPack, .inl (E 0, 3, .inl (upd (fun _ => 0) 2 1000000000)))] := hD
  refine lv_iconst (v := 0) hx hb dX6_findBest_8 (by decide) ?_
  refine lv_istore_n (lv' := [(3, .int 0), (0, .ref a0), (1, .int v_a), (2, .int v_b)]) hx hb dX6_findBest_9 rfl hl (by decide) rfl (fun ls hl => ?_)
  refine lv_iload_n hx hb dX6_findBest_10 rfl (lv_at hl 0 rfl) ?_
  refine lv_aload_n hx hb dX6_findBest_11 rfl (lv_at hl 1 rfl) ?_
  refine va_get (D := D) (ci := 6) (v := .ref a0_now) (C := RX6) (T := TX6) (N := 9) hx hb htg ig_6 hown hK hP 0 rfl rfl 0 (by decide) (htg _ q_258) (fun _ h9 => h9) rfl dX6_findBest_12 ?_
  refine va_get (D := D) (ci := 0) (v := .ref a0_now_counts) (C := RX0) (T := TX0) (N := 8) hx hb htg ig_0 hown hK hP 1 rfl rfl 0 (by decide) (htg _ q_100) (fun _ h9 => h9) rfl dX6_findBest_15 ?_
  refine lv_iconst (v := 2) hx hb dX6_findBest_18 (by decide) ?_
  refine va_iald hx hb hK hP 2 0 rfl rfl (show vp_in 2 4 by unfold vp_in; decide) dX6_findBest_19 ?_
  refine oh_nrm (v := 0) (by decide) ?_
  refine lv_icmp_ge (tgt := 118) hx hb dX6_findBest_20 (by decide) (fun _ => ?_) (fun c => absurd (show 0 ≤ (0 : Int32) from by decide) c)
  refine W.widen (k := 0) (n := 0) (Nat.le_of_ble_eq_true rfl) (Nat.le_of_ble_eq_true rfl) ?_
  exact W.vret hx hb hr (fun t ht hW => ⟨⟨(), rfl, trivial, ⟨by rw [ht]; exact hP.sub [0, 1, 2, 3] rfl, hD.sub [0, 1, 2, 3] (by decide) rfl⟩⟩, hS.F ht⟩) hS.2.2 dX6_findBest_118
def fX6_best (v_a : Int32) (v_b : Int32) (v_c : Int32) : Int32 :=
  if (fX6_within v_a 0 15) = 0 then (-2) else if (fX6_within v_b 0 15) = 0 then (-2) else if (fX6_within v_c 0 2) = 0 then (-2) else (-5)
set_option maxHeartbeats 4000000 in
set_option maxRecDepth 100000 in
theorem c_X6_best (l : Launch) (D : va_G) (E : Nat → ClassId) (G : Nat → Nat) (sz : Nat) (a0 : Nat) (v_a : Int32) (v_b : Int32) (v_c : Int32) (a0_now : Nat) (a0_kept : Nat) (a0_ways : Nat) (a0_shelves : Nat) (a0_tape : Nat) (a0_reader : Nat) (a0_refusals : Nat) (a0_bestPack : Nat) (a0_now_counts : Nat) (a0_now_roads : Nat) (a0_now_bridges : Nat) (a0_now_waggons : Nat) (a0_now_parts : Nat) (a0_now_settings : Nat) (a0_now_trip : Nat) : Met l yX6_best (oh_w yX6_best cX6_best 4 (some .int)) ({ frames := 2, cells := 0, slots := 0, locals := 44 }) (oh_Pm D E G [.ref a0, .int v_a, .int v_b, .int v_c] [(a0, .inr (6, [.ref a0_now, .ref a0_kept, .int 0, .ref a0_ways, .ref a0_shelves, .ref a0_tape, .ref a0_reader, .ref a0_refusals, .ref a0_bestPack])), (a0_now, .inr (0, [.ref a0_now_counts, .ref a0_now_roads, .ref a0_now_bridges, .ref a0_now_waggons, .ref a0_now_parts, .ref a0_now_settings, .ref a0_now_trip, .int 0])), (a0_now_counts, .inl (E 0, 4, .inl (fun _ => 0))), (a0_bestPack, .inl (E 0, 3, .inl (fun _ => 0))), (a0_refusals, .inl (E 0, 5, .inl (fun _ => 0)))] sz) (va_Qi (fun r (_ : Unit) => r = fX6_best v_a v_b v_c) (oh_B D (va_A [(a0, .inr (6, [.ref a0_now, .ref a0_kept, .int 0, .ref a0_ways, .ref a0_shelves, .ref a0_tape, .ref a0_reader, .ref a0_refusals, .ref a0_bestPack])), (a0_now, .inr (0, [.ref a0_now_counts, .ref a0_now_roads, .ref a0_now_bridges, .ref a0_now_waggons, .ref a0_now_parts, .ref a0_now_settings, .ref a0_now_trip, .int 0])), (a0_now_counts, .inl (E 0, 4, .inl (fun _ => 0))), (a0_bestPack, .inl (E 0, 3, .inl (fun _ => 0))), (a0_refusals, .inl (E 0, 5, .inl (fun _ => 0)))] sz) (fun _ => [])) (va_A [(a0, .inr (6, [.ref a0_now, .ref a0_kept, .int 0, .ref a0_ways, .ref a0_shelves, .ref a0_tape, .ref a0_reader, .ref a0_refusals, .ref a0_bestPack])), (a0_now, .inr (0, [.ref a0_now_counts, .ref a0_now_roads, .ref a0_now_bridges, .ref a0_now_waggons, .ref a0_now_parts, .ref a0_now_settings, .ref a0_now_trip, .int 0])), (a0_now_counts, .inl (E 0, 4, .inl (fun _ => 0))), (a0_bestPack, .inl (E 0, 3, .inl (fun _ => 0))), (a0_refusals, .inl (E 0, 5, .inl (fun _ => 0)))] sz)) 0 0 (va_A [(a0, .inr (6, [.ref a0_now, .ref a0_kept, .int 0, .ref a0_ways, .ref a0_shelves, .ref a0_tape, .ref a0_reader, .ref a0_refusals, .ref a0_bestPack])), (a0_now, .inr (0, [.ref a0_now_counts, .ref a0_now_roads, .ref a0_now_bridges, .ref a0_now_waggons, .ref a0_now_parts, .ref a0_now_settings, .ref a0_now_trip, .int 0])), (a0_now_counts, .inl (E 0, 4, .inl (fun _ => 0))), (a0_bestPack, .inl (E 0, 3, .inl (fun _ => 0))), (a0_refusals, .inl (E 0, 5, .inl (fun _ => 0)))] sz) := by
  refine Met.ofW (cc := cX6_best) (maxL := 4) (ret := (some .int)) (by decide) rfl ?_
  intro p e s m args below meth c s₁ B hml hv
  obtain ⟨rfl, hsz, hP, hK, hD0, hG⟩ := hv
  have hx := B.exec
  have hb := B.bytes
  have hr := B.returns
  have hts := atoms_spec (ws := (oh_w yX6_best cX6_best 4 (some .int))) B.pre
  have htg : ∀ w ∈ oh_t, w.before _ s = true := fun w h => hts w (List.mem_cons_of_mem _ h)
  have hown : s.vm.findClass RX6 = some m.cls := findClass_of_methodNamed B.named
  have hlocks := B.notSynchronized
  subst hsz
  have hD := hD0.self (sz := s.heap.size)
  generalize hAe : va_A [(a0, .inr (6, [.ref a0_now, .ref a0_kept, .int 0, .ref a0_ways, .ref a0_shelves, .ref a0_tape, .ref a0_reader, .ref a0_refusals, .ref a0_bestPack])), (a0_now, .inr (0, [.ref a0_now_counts, .ref a0_now_roads, .ref a0_now_bridges, .ref a0_now_waggons, .ref a0_now_parts, .ref a0_now_settings, .ref a0_now_trip, .int 0])), (a0_now_counts, .inl (E 0, 4, .inl (fun _ => 0))), (a0_bestPack, .inl (E 0, 3, .inl (fun _ => 0))), (a0_refusals, .inl (E 0, 5, .inl (fun _ => 0)))] s.heap.size = A at hD hG ⊢
  have hA : ∀ q : Nat, s.heap.size ≤ q → A q := fun q h => by rw [← hAe]; exact Or.inr h
  have hS : va_S A s.heap s.heap [] := va_S.rf
  have hP : va_P D vwCl [(a0, .inr (6, [.ref a0_now, .ref a0_kept, .int 0, .ref a0_ways, .ref a0_shelves, .ref a0_tape, .ref a0_reader, .ref a0_refusals, .ref a0_bestPack])), (a0_now, .inr (0, [.ref a0_now_counts, .ref a0_now_roads, .ref a0_now_bridges, .ref a0_now_waggons, .ref a0_now_parts, .ref a0_now_settings, .ref a0_now_trip, .int 0])), (a0_now_counts, .inl (E 0, 4, .inl (fun _ => 0))), (a0_bestPack, .inl (E 0, 3, .inl (fun _ => 0))), (a0_refusals, .inl (E 0, 5, .inl (fun _ => 0)))] s.heap := hP
  have hl := lv_entry ([.ref a0, .int v_a, .int v_b, .int v_c]) (n := 4) (Nat.le_of_ble_eq_true rfl)
  rw [lg_entry_eq]
  generalize (lg_sl ([.ref a0, .int v_a, .int v_b, .int v_c]) ++ List.replicate (4 - (lg_sl ([.ref a0, .int v_a, .int v_b, .int v_c])).length) Slot.unset).toArray = ls at hl ⊢
  have hl : lv_has ls 4 [(0, .ref a0), (1, .int v_a), (2, .int v_b), (3, .int v_c)] := hl
  refine lv_iload_n hx hb dX6_best_0 rfl (lv_at hl 1 rfl) ?_
  refine oh_pS (As := [.int v_a]) (rest := []) (v := fX6_within v_a 0 15) ⟨hx, hb, hml, hown, htg⟩ (c_X6_isPlace l D E G v_a) (va_cwS 1 htg (oh_gS q_413 q_414 q_66 q_415) rfl rfl rfl pdX6_isPlace ⟨Nat.le_of_ble_eq_true rfl, Nat.le_of_ble_eq_true rfl⟩) hK (hP.sub (ws' := []) [] rfl) hG hS rfl hl.1 rfl (Nat.le_of_ble_eq_true rfl) dX6_best_1 ⟨Nat.le_of_ble_eq_true rfl, Nat.le_of_ble_eq_true rfl⟩ ?_
  refine lv_if_eq (tgt := 23) hx hb dX6_best_4 (by decide) (fun (c_1 : (fX6_within v_a 0 15) = 0) => ?_) (fun (c_1 : ¬ ((fX6_within v_a 0 15) = 0)) => ?_)
  · refine lv_aload_n hx hb dX6_best_23 rfl (lv_at hl 0 rfl) ?_
    refine lv_bipush (v := (-2)) hx hb dX6_best_24 (by decide) ?_
    refine oh_mV (As := [.int (-2)]) (rest := []) (wr := [(a0_now, .inr (0, [.ref a0_now_counts, .ref a0_now_roads, .ref a0_now_bridges, .ref a0_now_waggons, .ref a0_now_parts, .ref a0_now_settings, .ref a0_now_trip, .int 0])), (a0_now_counts, .inl (E 0, 4, .inl (fun _ => 0))), (a0_bestPack, .inl (E 0, 3, .inl (fun _ => 0)))]) ⟨hx, hb, hml, hown, htg⟩ (c_X6_refuse l D E G s.heap.size a0 (-2) a0_now a0_kept a0_ways a0_shelves a0_tape a0_reader a0_refusals a0_bestPack) (cwV 1 htg (oh_gV q_296 q_298 q_0 q_66 q_299) rfl rfl rfl pdVX6_refuse ⟨Nat.le_of_ble_eq_true rfl, Nat.le_of_ble_eq_true rfl⟩) hK hP hD hG hS hA [0, 4] [1, 2, 3] rfl rfl (by decide) (by decide) (by decide) (va_recv hK hP (ci := 6) (q0 := 0) rfl rfl) rfl hl.1 rfl (Nat.le_of_ble_eq_true rfl) dX6_best_26 ⟨Nat.le_of_ble_eq_true rfl, Nat.le_of_ble_eq_true rfl⟩ (fun r_1 u H locs hw hP hD hS => ?_)
    subst hw
    have hP : va_P D vwCl [(a0_now, .inr (0, [.ref a0_now_counts, .ref a0_now_roads, .ref a0_now_bridges, .ref a0_now_waggons, .ref a0_now_parts, .ref a0_now_settings, .ref a0_now_trip, .int 0])), (a0_now_counts, .inl (E 0, 4, .inl (fun _ => 0))), (a0_bestPack, .inl (E 0, 3, .inl (fun _ => 0))), (a0, .inr (6, [.ref a0_now, .ref a0_kept, .int 0, .ref a0_ways, .ref a0_shelves, .ref a0_tape, .ref a0_reader, .ref a0_refusals, .ref a0_bestPack]))] H := hP
    have hD : va_D A [(a0_now, .inr (0, [.ref a0_now_counts, .ref a0_now_roads, .ref a0_now_bridges, .ref a0_now_waggons, .ref a0_now_parts, .ref a0_now_settings, .ref a0_now_trip, .int 0])), (a0_now_counts, .inl (E 0, 4, .inl (fun _ => 0))), (a0_bestPack, .inl (E 0, 3, .inl (fun _ => 0))), (a0, .inr (6, [.ref a0_now, .ref a0_kept, .int 0, .ref a0_ways, .ref a0_shelves, .ref a0_tape, .ref a0_reader, .ref a0_refusals, .ref a0_bestPack]))] := hD
    refine W.widen (k := 0) (n := 0) (Nat.le_refl _) (Nat.le_refl _) ?_
    refine W.widen (k := 0) (n := 0) (Nat.le_of_ble_eq_true rfl) (Nat.le_of_ble_eq_true rfl) ?_
    exact W.iret (v := (-2)) hx hb hr (fun t ht hW => ⟨⟨(-2), (), rfl, by unfold fX6_best; rw [if_pos c_1], ⟨by rw [ht]; exact hP.sub [] rfl, hD.sub [] (by decide) rfl⟩⟩, hS.F ht⟩) hS.2.2 dX6_best_29
  · refine lv_iload_n hx hb dX6_best_7 rfl (lv_at hl 2 rfl) ?_
    refine oh_pS (As := [.int v_b]) (rest := []) (v := fX6_within v_b 0 15) ⟨hx, hb, hml, hown, htg⟩ (c_X6_isPlace l D E G v_b) (va_cwS 1 htg (oh_gS q_413 q_414 q_66 q_415) rfl rfl rfl pdX6_isPlace ⟨Nat.le_of_ble_eq_true rfl, Nat.le_of_ble_eq_true rfl⟩) hK (hP.sub (ws' := []) [] rfl) hG hS rfl hl.1 rfl (Nat.le_of_ble_eq_true rfl) dX6_best_8 ⟨Nat.le_of_ble_eq_true rfl, Nat.le_of_ble_eq_true rfl⟩ ?_
    refine lv_if_eq (tgt := 23) hx hb dX6_best_11 (by decide) (fun (c_2 : (fX6_within v_b 0 15) = 0) => ?_) (fun (c_2 : ¬ ((fX6_within v_b 0 15) = 0)) => ?_)
    · refine lv_aload_n hx hb dX6_best_23 rfl (lv_at hl 0 rfl) ?_
      refine lv_bipush (v := (-2)) hx hb dX6_best_24 (by decide) ?_
      refine oh_mV (As := [.int (-2)]) (rest := []) (wr := [(a0_now, .inr (0, [.ref a0_now_counts, .ref a0_now_roads, .ref a0_now_bridges, .ref a0_now_waggons, .ref a0_now_parts, .ref a0_now_settings, .ref a0_now_trip, .int 0])), (a0_now_counts, .inl (E 0, 4, .inl (fun _ => 0))), (a0_bestPack, .inl (E 0, 3, .inl (fun _ => 0)))]) ⟨hx, hb, hml, hown, htg⟩ (c_X6_refuse l D E G s.heap.size a0 (-2) a0_now a0_kept a0_ways a0_shelves a0_tape a0_reader a0_refusals a0_bestPack) (cwV 1 htg (oh_gV q_296 q_298 q_0 q_66 q_299) rfl rfl rfl pdVX6_refuse ⟨Nat.le_of_ble_eq_true rfl, Nat.le_of_ble_eq_true rfl⟩) hK hP hD hG hS hA [0, 4] [1, 2, 3] rfl rfl (by decide) (by decide) (by decide) (va_recv hK hP (ci := 6) (q0 := 0) rfl rfl) rfl hl.1 rfl (Nat.le_of_ble_eq_true rfl) dX6_best_26 ⟨Nat.le_of_ble_eq_true rfl, Nat.le_of_ble_eq_true rfl⟩ (fun r_2 u H locs hw hP hD hS => ?_)
      subst hw
      have hP : va_P D vwCl [(a0_now, .inr (0, [.ref a0_now_counts, .ref a0_now_roads, .ref a0_now_bridges, .ref a0_now_waggons, .ref a0_now_parts, .ref a0_now_settings, .ref a0_now_trip, .int 0])), (a0_now_counts, .inl (E 0, 4, .inl (fun _ => 0))), (a0_bestPack, .inl (E 0, 3, .inl (fun _ => 0))), (a0, .inr (6, [.ref a0_now, .ref a0_kept, .int 0, .ref a0_ways, .ref a0_shelves, .ref a0_tape, .ref a0_reader, .ref a0_refusals, .ref a0_bestPack]))] H := hP
      have hD : va_D A [(a0_now, .inr (0, [.ref a0_now_counts, .ref a0_now_roads, .ref a0_now_bridges, .ref a0_now_waggons, .ref a0_now_parts, .ref a0_now_settings, .ref a0_now_trip, .int 0])), (a0_now_counts, .inl (E 0, 4, .inl (fun _ => 0))), (a0_bestPack, .inl (E 0, 3, .inl (fun _ => 0))), (a0, .inr (6, [.ref a0_now, .ref a0_kept, .int 0, .ref a0_ways, .ref a0_shelves, .ref a0_tape, .ref a0_reader, .ref a0_refusals, .ref a0_bestPack]))] := hD
      refine W.widen (k := 0) (n := 0) (Nat.le_refl _) (Nat.le_refl _) ?_
      refine W.widen (k := 0) (n := 0) (Nat.le_of_ble_eq_true rfl) (Nat.le_of_ble_eq_true rfl) ?_
      exact W.iret (v := (-2)) hx hb hr (fun t ht hW => ⟨⟨(-2), (), rfl, by unfold fX6_best; rw [if_neg c_1, if_pos c_2], ⟨by rw [ht]; exact hP.sub [] rfl, hD.sub [] (by decide) rfl⟩⟩, hS.F ht⟩) hS.2.2 dX6_best_29
    · refine lv_iload_n hx hb dX6_best_14 rfl (lv_at hl 3 rfl) ?_
      refine lv_iconst (v := 0) hx hb dX6_best_15 (by decide) ?_
      refine lv_iconst (v := 2) hx hb dX6_best_16 (by decide) ?_
      refine oh_pS (As := [.int v_c, .int 0, .int 2]) (rest := []) (v := fX6_within v_c 0 2) ⟨hx, hb, hml, hown, htg⟩ (c_X6_within l D E G v_c 0 2) (va_cwS 3 htg (oh_gS q_293 q_294 q_66 q_295) rfl rfl rfl pdX6_within ⟨Nat.le_of_ble_eq_true rfl, Nat.le_of_ble_eq_true rfl⟩) hK (hP.sub (ws' := []) [] rfl) hG hS rfl hl.1 rfl (Nat.le_of_ble_eq_true rfl) dX6_best_17 ⟨Nat.le_of_ble_eq_true rfl, Nat.le_of_ble_eq_true rfl⟩ ?_
      refine lv_if_ne (tgt := 30) hx hb dX6_best_20 (by decide) (fun (c_3 : ¬ ((fX6_within v_c 0 2) = 0)) => ?_) (fun (c_3 : (fX6_within v_c 0 2) = 0) => ?_)
      · refine lv_aload_n hx hb dX6_best_30 rfl (lv_at hl 0 rfl) ?_
        refine lv_iload_n hx hb dX6_best_31 rfl (lv_at hl 1 rfl) ?_
        refine lv_iload_n hx hb dX6_best_32 rfl (lv_at hl 2 rfl) ?_
        refine oh_mVv (As := [.int v_a, .int v_b]) (rest := []) (wr := [(a0_refusals, .inl (E 0, 5, .inl (fun _ => 0)))]) ⟨hx, hb, hml, hown, htg⟩ (c_X6_findBest l D E G s.heap.size a0 v_a v_b a0_now a0_kept a0_ways a0_shelves a0_tape a0_reader a0_refusals a0_bestPack a0_now_counts a0_now_roads a0_now_bridges a0_now_waggons a0_now_parts a0_now_settings a0_now_trip) (cwV 2 htg (oh_gV q_821 q_823 q_22 q_66 q_824) rfl rfl rfl pdVX6_findBest ⟨Nat.le_of_ble_eq_true rfl, Nat.le_of_ble_eq_true rfl⟩) hK hP hD hG hS hA [0, 1, 2, 3] [4] rfl rfl (by decide) (by decide) (by decide) (va_recv hK hP (ci := 6) (q0 := 0) rfl rfl) rfl hl.1 rfl (Nat.le_of_ble_eq_true rfl) dX6_best_33 ⟨Nat.le_of_ble_eq_true rfl, Nat.le_of_ble_eq_true rfl⟩ (fun u H locs hw hP hD hS => ?_)
        have hP : va_P D vwCl [(a0_refusals, .inl (E 0, 5, .inl (fun _ => 0))), (a0, .inr (6, [.ref a0_now, .ref a0_kept, .int 0, .ref a0_ways, .ref a0_shelves, .ref a0_tape, .ref a0_reader, .ref a0_refusals, .ref a0_bestPack])), (a0_now, .inr (0, [.ref a0_now_counts, .ref a0_now_roads, .ref a0_now_bridges, .ref a0_now_waggons, .ref a0_now_parts, .ref a0_now_settings, .ref a0_now_trip, .int 0])), (a0_now_counts, .inl (E 0, 4, .inl (fun _ => 0))), (a0_bestPack, .inl (E 0, 3, .inl (upd (fun _ => 0) 2 1000000000)))] H := hP
        have hD : va_D A [(a0_refusals, .inl (E 0, 5, .inl (fun _ => 0))), (a0, .inr (6, [.ref a0_now, .ref a0_kept, .int 0, .ref a0_ways, .ref a0_shelves, .ref a0_tape, .ref a0_reader, .ref a0_refusals, .ref a0_bestPack])), (a0_now, .inr (0, [.ref a0_now_counts, .ref a0_now_roads, .ref a0_now_bridges, .ref a0_now_waggons, .ref a0_now_parts, .ref a0_now_settings, .ref a0_now_trip, .int 0])), (a0_now_counts, .inl (E 0, 4, .inl (fun _ => 0))), (a0_bestPack, .inl (E 0, 3, .inl (upd (fun _ => 0) 2 1000000000)))] := hD
        refine W.widen (k := 0) (n := 0) (Nat.le_refl _) (Nat.le_refl _) ?_
        refine lv_aload_n hx hb dX6_best_36 rfl (lv_at hl 0 rfl) ?_
        refine va_get (D := D) (ci := 6) (v := .ref a0_bestPack) (C := RX6) (T := TX6) (N := 9) hx hb htg ig_6 hown hK hP 1 rfl rfl 8 (by decide) (htg _ q_266) (fun _ h9 => h9) rfl dX6_best_37 ?_
        refine lv_iconst (v := 2) hx hb dX6_best_40 (by decide) ?_
        refine va_iald hx hb hK hP 4 0 rfl rfl (show vp_in 2 3 by unfold vp_in; decide) dX6_best_41 ?_
        refine oh_nrm (v := 1000000000) (by decide) ?_
        refine lv_ldc (v := 1000000000) hx hb hown (htg _ q_803) dX6_best_42 ?_
        refine lv_icmp_ne (tgt := 56) hx hb dX6_best_44 (by decide) (fun c => absurd (show (1000000000 : Int32) = 1000000000 from by decide) c) (fun _ => ?_)
        refine lv_aload_n hx hb dX6_best_47 rfl (lv_at hl 0 rfl) ?_
        refine lv_bipush (v := (-5)) hx hb dX6_best_48 (by decide) ?_
        refine oh_mV (As := [.int (-5)]) (rest := []) (wr := [(a0_now, .inr (0, [.ref a0_now_counts, .ref a0_now_roads, .ref a0_now_bridges, .ref a0_now_waggons, .ref a0_now_parts, .ref a0_now_settings, .ref a0_now_trip, .int 0])), (a0_now_counts, .inl (E 0, 4, .inl (fun _ => 0))), (a0_bestPack, .inl (E 0, 3, .inl (upd (fun _ => 0) 2 1000000000)))]) ⟨hx, hb, hml, hown, htg⟩ (c_X6_refuse l D E G H.size a0 (-5) a0_now a0_kept a0_ways a0_shelves a0_tape a0_reader a0_refusals a0_bestPack) (cwV 1 htg (oh_gV q_296 q_298 q_0 q_66 q_299) rfl rfl rfl pdVX6_refuse ⟨Nat.le_of_ble_eq_true rfl, Nat.le_of_ble_eq_true rfl⟩) hK hP hD hG hS hA [1, 0] [2, 3, 4] rfl rfl (by decide) (by decide) (by decide) (va_recv hK hP (ci := 6) (q0 := 1) rfl rfl) rfl hl.1 rfl (Nat.le_of_ble_eq_true rfl) dX6_best_50 ⟨Nat.le_of_ble_eq_true rfl, Nat.le_of_ble_eq_true rfl⟩ (fun r_4 u H locs hw hP hD hS => ?_)
        subst hw
        have hP : va_P D vwCl [(a0_now, .inr (0, [.ref a0_now_counts, .ref a0_now_roads, .ref a0_now_bridges, .ref a0_now_waggons, .ref a0_now_parts, .ref a0_now_settings, .ref a0_now_trip, .int 0])), (a0_now_counts, .inl (E 0, 4, .inl (fun _ => 0))), (a0_bestPack, .inl (E 0, 3, .inl (upd (fun _ => 0) 2 1000000000))), (a0, .inr (6, [.ref a0_now, .ref a0_kept, .int 0, .ref a0_ways, .ref a0_shelves, .ref a0_tape, .ref a0_reader, .ref a0_refusals, .ref a0_bestPack]))] H := hP
        have hD : va_D A [(a0_now, .inr (0, [.ref a0_now_counts, .ref a0_now_roads, .ref a0_now_bridges, .ref a0_now_waggons, .ref a0_now_parts, .ref a0_now_settings, .ref a0_now_trip, .int 0])), (a0_now_counts, .inl (E 0, 4, .inl (fun _ => 0))), (a0_bestPack, .inl (E 0, 3, .inl (upd (fun _ => 0) 2 1000000000))), (a0, .inr (6, [.ref a0_now, .ref a0_kept, .int 0, .ref a0_ways, .ref a0_shelves, .ref a0_tape, .ref a0_reader, .ref a0_refusals, .ref a0_bestPack]))] := hD
        refine W.widen (k := 0) (n := 0) (Nat.le_refl _) (Nat.le_refl _) ?_
        refine lv_goto (tgt := 62) hx hb dX6_best_53 (by decide) ?_
        refine W.widen (k := 0) (n := 0) (Nat.le_of_ble_eq_true rfl) (Nat.le_of_ble_eq_true rfl) ?_
        exact W.iret (v := (-5)) hx hb hr (fun t ht hW => ⟨⟨(-5), (), rfl, by unfold fX6_best; rw [if_neg c_1, if_neg c_2, if_neg c_3], ⟨by rw [ht]; exact hP.sub [] rfl, hD.sub [] (by decide) rfl⟩⟩, hS.F ht⟩) hS.2.2 dX6_best_62
      · refine lv_aload_n hx hb dX6_best_23 rfl (lv_at hl 0 rfl) ?_
        refine lv_bipush (v := (-2)) hx hb dX6_best_24 (by decide) ?_
        refine oh_mV (As := [.int (-2)]) (rest := []) (wr := [(a0_now, .inr (0, [.ref a0_now_counts, .ref a0_now_roads, .ref a0_now_bridges, .ref a0_now_waggons, .ref a0_now_parts, .ref a0_now_settings, .ref a0_now_trip, .int 0])), (a0_now_counts, .inl (E 0, 4, .inl (fun _ => 0))), (a0_bestPack, .inl (E 0, 3, .inl (fun _ => 0)))]) ⟨hx, hb, hml, hown, htg⟩ (c_X6_refuse l D E G s.heap.size a0 (-2) a0_now a0_kept a0_ways a0_shelves a0_tape a0_reader a0_refusals a0_bestPack) (cwV 1 htg (oh_gV q_296 q_298 q_0 q_66 q_299) rfl rfl rfl pdVX6_refuse ⟨Nat.le_of_ble_eq_true rfl, Nat.le_of_ble_eq_true rfl⟩) hK hP hD hG hS hA [0, 4] [1, 2, 3] rfl rfl (by decide) (by decide) (by decide) (va_recv hK hP (ci := 6) (q0 := 0) rfl rfl) rfl hl.1 rfl (Nat.le_of_ble_eq_true rfl) dX6_best_26 ⟨Nat.le_of_ble_eq_true rfl, Nat.le_of_ble_eq_true rfl⟩ (fun r_5 u H locs hw hP hD hS => ?_)
        subst hw
        have hP : va_P D vwCl [(a0_now, .inr (0, [.ref a0_now_counts, .ref a0_now_roads, .ref a0_now_bridges, .ref a0_now_waggons, .ref a0_now_parts, .ref a0_now_settings, .ref a0_now_trip, .int 0])), (a0_now_counts, .inl (E 0, 4, .inl (fun _ => 0))), (a0_bestPack, .inl (E 0, 3, .inl (fun _ => 0))), (a0, .inr (6, [.ref a0_now, .ref a0_kept, .int 0, .ref a0_ways, .ref a0_shelves, .ref a0_tape, .ref a0_reader, .ref a0_refusals, .ref a0_bestPack]))] H := hP
        have hD : va_D A [(a0_now, .inr (0, [.ref a0_now_counts, .ref a0_now_roads, .ref a0_now_bridges, .ref a0_now_waggons, .ref a0_now_parts, .ref a0_now_settings, .ref a0_now_trip, .int 0])), (a0_now_counts, .inl (E 0, 4, .inl (fun _ => 0))), (a0_bestPack, .inl (E 0, 3, .inl (fun _ => 0))), (a0, .inr (6, [.ref a0_now, .ref a0_kept, .int 0, .ref a0_ways, .ref a0_shelves, .ref a0_tape, .ref a0_reader, .ref a0_refusals, .ref a0_bestPack]))] := hD
        refine W.widen (k := 0) (n := 0) (Nat.le_refl _) (Nat.le_refl _) ?_
        refine W.widen (k := 0) (n := 0) (Nat.le_of_ble_eq_true rfl) (Nat.le_of_ble_eq_true rfl) ?_
        exact W.iret (v := (-2)) hx hb hr (fun t ht hW => ⟨⟨(-2), (), rfl, by unfold fX6_best; rw [if_neg c_1, if_neg c_2, if_pos c_3], ⟨by rw [ht]; exact hP.sub [] rfl, hD.sub [] (by decide) rfl⟩⟩, hS.F ht⟩) hS.2.2 dX6_best_29
end
section
set_option maxHeartbeats 4000000 in
set_option maxRecDepth 100000 in
theorem c_X0_become (l : Launch) (D : va_G) (E : Nat → ClassId) (G : Nat → Nat) (sz : Nat) (a0 : Nat) (b0 : Nat) (a0_counts : Nat) (a0_roads : Nat) (a0_bridges : Nat) (a0_waggons : Nat) (a0_parts : Nat) (a0_settings : Nat) (a0_trip : Nat) (b0_counts : Nat) (b0_roads : Nat) (b0_bridges : Nat) (b0_waggons : Nat) (b0_parts : Nat) (b0_settings : Nat) (b0_trip : Nat) : Met l yX0_become (oh_w yX0_become cX0_become 2 none) ({ frames := 1, cells := 0, slots := 0, locals := 18 }) (oh_Pm D E G [.ref a0, .ref b0] [(a0, .inr (0, [.ref a0_counts, .ref a0_roads, .ref a0_bridges, .ref a0_waggons, .ref a0_parts, .ref a0_settings, .ref a0_trip, .int 0])), (a0_counts, .inl (E 0, 4, .inl (fun _ => 0))), (a0_roads, .inl (E 0, 168, .inl (fun _ => 0))), (a0_bridges, .inl (E 0, 160, .inl (fun _ => 0))), (a0_waggons, .inl (E 0, 15, .inl (fun _ => 0))), (a0_parts, .inl (E 0, 10, .inl (fun _ => 0))), (a0_settings, .inl (E 0, 3, .inl (upd (upd (fun _ => 0) 0 100) 1 2))), (a0_trip, .inl (E 0, 7, .inl (fun _ => 0))), (b0, .inr (0, [.ref b0_counts, .ref b0_roads, .ref b0_bridges, .ref b0_waggons, .ref b0_parts, .ref b0_settings, .ref b0_trip, .int 0])), (b0_counts, .inl (E 0, 4, .inl (fun _ => 0))), (b0_roads, .inl (E 0, 168, .inl (fun _ => 0))), (b0_bridges, .inl (E 0, 160, .inl (fun _ => 0))), (b0_waggons, .inl (E 0, 15, .inl (fun _ => 0))), (b0_parts, .inl (E 0, 10, .inl (fun _ => 0))), (b0_settings, .inl (E 0, 3, .inl (upd (upd (fun _ => 0) 0 100) 1 2))), (b0_trip, .inl (E 0, 7, .inl (fun _ => 0)))] sz) (va_Qv (fun (_ : Unit) => True) (oh_B D (va_A [(a0, .inr (0, [.ref a0_counts, .ref a0_roads, .ref a0_bridges, .ref a0_waggons, .ref a0_parts, .ref a0_settings, .ref a0_trip, .int 0])), (a0_counts, .inl (E 0, 4, .inl (fun _ => 0))), (a0_roads, .inl (E 0, 168, .inl (fun _ => 0))), (a0_bridges, .inl (E 0, 160, .inl (fun _ => 0))), (a0_waggons, .inl (E 0, 15, .inl (fun _ => 0))), (a0_parts, .inl (E 0, 10, .inl (fun _ => 0))), (a0_settings, .inl (E 0, 3, .inl (upd (upd (fun _ => 0) 0 100) 1 2))), (a0_trip, .inl (E 0, 7, .inl (fun _ => 0))), (b0, .inr (0, [.ref b0_counts, .ref b0_roads, .ref b0_bridges, .ref b0_waggons, .ref b0_parts, .ref b0_settings, .ref b0_trip, .int 0])), (b0_counts, .inl (E 0, 4, .inl (fun _ => 0))), (b0_roads, .inl (E 0, 168, .inl (fun _ => 0))), (b0_bridges, .inl (E 0, 160, .inl (fun _ => 0))), (b0_waggons, .inl (E 0, 15, .inl (fun _ => 0))), (b0_parts, .inl (E 0, 10, .inl (fun _ => 0))), (b0_settings, .inl (E 0, 3, .inl (upd (upd (fun _ => 0) 0 100) 1 2))), (b0_trip, .inl (E 0, 7, .inl (fun _ => 0)))] sz) (fun _ => [])) (va_A [(a0, .inr (0, [.ref a0_counts, .ref a0_roads, .ref a0_bridges, .ref a0_waggons, .ref a0_parts, .ref a0_settings, .ref a0_trip, .int 0])), (a0_counts, .inl (E 0, 4, .inl (fun _ => 0))), (a0_roads, .inl (E 0, 168, .inl (fun _ => 0))), (a0_bridges, .inl (E 0, 160, .inl (fun _ => 0))), (a0_waggons, .inl (E 0, 15, .inl (fun _ => 0))), (a0_parts, .inl (E 0, 10, .inl (fun _ => 0))), (a0_settings, .inl (E 0, 3, .inl (upd (upd (fun _ => 0) 0 100) 1 2))), (a0_trip, .inl (E 0, 7, .inl (fun _ => 0))), (b0, .inr (0, [.ref b0_counts, .ref b0_roads, .ref b0_bridges, .ref b0_waggons, .ref b0_parts, .ref b0_settings, .ref b0_trip, .int 0])), (b0_counts, .inl (E 0, 4, .inl (fun _ => 0))), (b0_roads, .inl (E 0, 168, .inl (fun _ => 0))), (b0_bridges, .inl (E 0, 160, .inl (fun _ => 0))), (b0_waggons, .inl (E 0, 15, .inl (fun _ => 0))), (b0_parts, .inl (E 0, 10, .inl (fun _ => 0))), (b0_settings, .inl (E 0, 3, .inl (upd (upd (fun _ => 0) 0 100) 1 2))), (b0_trip, .inl (E 0, 7, .inl (fun _ => 0)))] sz)) 0 0 (va_A [(a0, .inr (0, [.ref a0_counts, .ref a0_roads, .ref a0_bridges, .ref a0_waggons, .ref a0_parts, .ref a0_settings, .ref a0_trip, .int 0])), (a0_counts, .inl (E 0, 4, .inl (fun _ => 0))), (a0_roads, .inl (E 0, 168, .inl (fun _ => 0))), (a0_bridges, .inl (E 0, 160, .inl (fun _ => 0))), (a0_waggons, .inl (E 0, 15, .inl (fun _ => 0))), (a0_parts, .inl (E 0, 10, .inl (fun _ => 0))), (a0_settings, .inl (E 0, 3, .inl (upd (upd (fun _ => 0) 0 100) 1 2))), (a0_trip, .inl (E 0, 7, .inl (fun _ => 0))), (b0, .inr (0, [.ref b0_counts, .ref b0_roads, .ref b0_bridges, .ref b0_waggons, .ref b0_parts, .ref b0_settings, .ref b0_trip, .int 0])), (b0_counts, .inl (E 0, 4, .inl (fun _ => 0))), (b0_roads, .inl (E 0, 168, .inl (fun _ => 0))), (b0_bridges, .inl (E 0, 160, .inl (fun _ => 0))), (b0_waggons, .inl (E 0, 15, .inl (fun _ => 0))), (b0_parts, .inl (E 0, 10, .inl (fun _ => 0))), (b0_settings, .inl (E 0, 3, .inl (upd (upd (fun _ => 0) 0 100) 1 2))), (b0_trip, .inl (E 0, 7, .inl (fun _ => 0)))] sz) := by
  refine Met.ofW (cc := cX0_become) (maxL := 2) (ret := none) (by decide) rfl ?_
  intro p e s m args below meth c s₁ B hml hv
  obtain ⟨rfl, hsz, hP, hK, hD0, hG⟩ := hv
  have hx := B.exec
  have hb := B.bytes
  have hr := B.returns
  have hts := atoms_spec (ws := (oh_w yX0_become cX0_become 2 none)) B.pre
  have htg : ∀ w ∈ oh_t, w.before _ s = true := fun w h => hts w (List.mem_cons_of_mem _ h)
  have hown : s.vm.findClass RX0 = some m.cls := findClass_of_methodNamed B.named
  have hlocks := B.notSynchronized
  subst hsz
  have hD := hD0.self (sz := s.heap.size)
  generalize hAe : va_A [(a0, .inr (0, [.ref a0_counts, .ref a0_roads, .ref a0_bridges, .ref a0_waggons, .ref a0_parts, .ref a0_settings, .ref a0_trip, .int 0])), (a0_counts, .inl (E 0, 4, .inl (fun _ => 0))), (a0_roads, .inl (E 0, 168, .inl (fun _ => 0))), (a0_bridges, .inl (E 0, 160, .inl (fun _ => 0))), (a0_waggons, .inl (E 0, 15, .inl (fun _ => 0))), (a0_parts, .inl (E 0, 10, .inl (fun _ => 0))), (a0_settings, .inl (E 0, 3, .inl (upd (upd (fun _ => 0) 0 100) 1 2))), (a0_trip, .inl (E 0, 7, .inl (fun _ => 0))), (b0, .inr (0, [.ref b0_counts, .ref b0_roads, .ref b0_bridges, .ref b0_waggons, .ref b0_parts, .ref b0_settings, .ref b0_trip, .int 0])), (b0_counts, .inl (E 0, 4, .inl (fun _ => 0))), (b0_roads, .inl (E 0, 168, .inl (fun _ => 0))), (b0_bridges, .inl (E 0, 160, .inl (fun _ => 0))), (b0_waggons, .inl (E 0, 15, .inl (fun _ => 0))), (b0_parts, .inl (E 0, 10, .inl (fun _ => 0))), (b0_settings, .inl (E 0, 3, .inl (upd (upd (fun _ => 0) 0 100) 1 2))), (b0_trip, .inl (E 0, 7, .inl (fun _ => 0)))] s.heap.size = A at hD hG ⊢
  have hA : ∀ q : Nat, s.heap.size ≤ q → A q := fun q h => by rw [← hAe]; exact Or.inr h
  have hS : va_S A s.heap s.heap [] := va_S.rf
  have hP : va_P D vwCl [(a0, .inr (0, [.ref a0_counts, .ref a0_roads, .ref a0_bridges, .ref a0_waggons, .ref a0_parts, .ref a0_settings, .ref a0_trip, .int 0])), (a0_counts, .inl (E 0, 4, .inl (fun _ => 0))), (a0_roads, .inl (E 0, 168, .inl (fun _ => 0))), (a0_bridges, .inl (E 0, 160, .inl (fun _ => 0))), (a0_waggons, .inl (E 0, 15, .inl (fun _ => 0))), (a0_parts, .inl (E 0, 10, .inl (fun _ => 0))), (a0_settings, .inl (E 0, 3, .inl (upd (upd (fun _ => 0) 0 100) 1 2))), (a0_trip, .inl (E 0, 7, .inl (fun _ => 0))), (b0, .inr (0, [.ref b0_counts, .ref b0_roads, .ref b0_bridges, .ref b0_waggons, .ref b0_parts, .ref b0_settings, .ref b0_trip, .int 0])), (b0_counts, .inl (E 0, 4, .inl (fun _ => 0))), (b0_roads, .inl (E 0, 168, .inl (fun _ => 0))), (b0_bridges, .inl (E 0, 160, .inl (fun _ => 0))), (b0_waggons, .inl (E 0, 15, .inl (fun _ => 0))), (b0_parts, .inl (E 0, 10, .inl (fun _ => 0))), (b0_settings, .inl (E 0, 3, .inl (upd (upd (fun _ => 0) 0 100) 1 2))), (b0_trip, .inl (E 0, 7, .inl (fun _ => 0)))] s.heap := hP
  have hl := lv_entry ([.ref a0, .ref b0]) (n := 2) (Nat.le_of_ble_eq_true rfl)
  rw [lg_entry_eq]
  generalize (lg_sl ([.ref a0, .ref b0]) ++ List.replicate (2 - (lg_sl ([.ref a0, .ref b0])).length) Slot.unset).toArray = ls at hl ⊢
  have hl : lv_has ls 2 [(0, .ref a0), (1, .ref b0)] := hl
  refine lv_aload_n hx hb dX0_become_0 rfl (lv_at hl 1 rfl) ?_
  refine va_get (D := D) (ci := 0) (v := .ref b0_counts) (C := RX0) (T := TX0) (N := 8) hx hb htg ig_0 hown hK hP 8 rfl rfl 0 (by decide) (htg _ q_97) (fun _ h9 => h9) rfl dX0_become_1 ?_
  refine lv_iconst (v := 0) hx hb dX0_become_4 (by decide) ?_
  refine lv_aload_n hx hb dX0_become_5 rfl (lv_at hl 0 rfl) ?_
  refine va_get (D := D) (ci := 0) (v := .ref a0_counts) (C := RX0) (T := TX0) (N := 8) hx hb htg ig_0 hown hK hP 0 rfl rfl 0 (by decide) (htg _ q_97) (fun _ h9 => h9) rfl dX0_become_6 ?_
  refine lv_iconst (v := 0) hx hb dX0_become_9 (by decide) ?_
  refine lv_aload_n hx hb dX0_become_10 rfl (lv_at hl 0 rfl) ?_
  refine va_get (D := D) (ci := 0) (v := .ref a0_counts) (C := RX0) (T := TX0) (N := 8) hx hb htg ig_0 hown hK hP 0 rfl rfl 0 (by decide) (htg _ q_97) (fun _ h9 => h9) rfl dX0_become_11 ?_
  refine va_alen (v := 4) hx hb hK hP 1 0 rfl rfl (by decide) dX0_become_14 ?_
  refine va_copyi (ty := .int) hx hb (by rw [hml]; exact hl.1.symm) hown (htg _ q_941) (htg _ q_347) (htg _ q_346) (htg _ q_74) hK hP hD hS 9 1 0 0 rfl rfl rfl rfl rfl (by decide) (by decide) (by decide) (by decide) (by decide) (fun _ _ => rfl) (Nat.le_of_ble_eq_true rfl) (Nat.le_of_ble_eq_true rfl) dX0_become_15 (fun H locs hP hD hS => ?_)
  have hP : va_P D vwCl [(a0, .inr (0, [.ref a0_counts, .ref a0_roads, .ref a0_bridges, .ref a0_waggons, .ref a0_parts, .ref a0_settings, .ref a0_trip, .int 0])), (a0_counts, .inl (E 0, 4, .inl (va_cpy (fun _ => 0) (fun _ => 0) 0 0 4))), (a0_roads, .inl (E 0, 168, .inl (fun _ => 0))), (a0_bridges, .inl (E 0, 160, .inl (fun _ => 0))), (a0_waggons, .inl (E 0, 15, .inl (fun _ => 0))), (a0_parts, .inl (E 0, 10, .inl (fun _ => 0))), (a0_settings, .inl (E 0, 3, .inl (upd (upd (fun _ => 0) 0 100) 1 2))), (a0_trip, .inl (E 0, 7, .inl (fun _ => 0))), (b0, .inr (0, [.ref b0_counts, .ref b0_roads, .ref b0_bridges, .ref b0_waggons, .ref b0_parts, .ref b0_settings, .ref b0_trip, .int 0])), (b0_counts, .inl (E 0, 4, .inl (fun _ => 0))), (b0_roads, .inl (E 0, 168, .inl (fun _ => 0))), (b0_bridges, .inl (E 0, 160, .inl (fun _ => 0))), (b0_waggons, .inl (E 0, 15, .inl (fun _ => 0))), (b0_parts, .inl (E 0, 10, .inl (fun _ => 0))), (b0_settings, .inl (E 0, 3, .inl (upd (upd (fun _ => 0) 0 100) 1 2))), (b0_trip, .inl (E 0, 7, .inl (fun _ => 0)))] H := hP
  have hD : va_D A [(a0, .inr (0, [.ref a0_counts, .ref a0_roads, .ref a0_bridges, .ref a0_waggons, .ref a0_parts, .ref a0_settings, .ref a0_trip, .int 0])), (a0_counts, .inl (E 0, 4, .inl (va_cpy (fun _ => 0) (fun _ => 0) 0 0 4))), (a0_roads, .inl (E 0, 168, .inl (fun _ => 0))), (a0_bridges, .inl (E 0, 160, .inl (fun _ => 0))), (a0_waggons, .inl (E 0, 15, .inl (fun _ => 0))), (a0_parts, .inl (E 0, 10, .inl (fun _ => 0))), (a0_settings, .inl (E 0, 3, .inl (upd (upd (fun _ => 0) 0 100) 1 2))), (a0_trip, .inl (E 0, 7, .inl (fun _ => 0))), (b0, .inr (0, [.ref b0_counts, .ref b0_roads, .ref b0_bridges, .ref b0_waggons, .ref b0_parts, .ref b0_settings, .ref b0_trip, .int 0])), (b0_counts, .inl (E 0, 4, .inl (fun _ => 0))), (b0_roads, .inl (E 0, 168, .inl (fun _ => 0))), (b0_bridges, .inl (E 0, 160, .inl (fun _ => 0))), (b0_waggons, .inl (E 0, 15, .inl (fun _ => 0))), (b0_parts, .inl (E 0, 10, .inl (fun _ => 0))), (b0_settings, .inl (E 0, 3, .inl (upd (upd (fun _ => 0) 0 100) 1 2))), (b0_trip, .inl (E 0, 7, .inl (fun _ => 0)))] := hD
  refine lv_aload_n hx hb dX0_become_18 rfl (lv_at hl 1 rfl) ?_
  refine va_get (D := D) (ci := 0) (v := .ref b0_roads) (C := RX0) (T := TX0) (N := 8) hx hb htg ig_0 hown hK hP 8 rfl rfl 1 (by decide) (htg _ q_101) (fun _ h9 => h9) rfl dX0_become_19 ?_
  refine lv_iconst (v := 0) hx hb dX0_become_22 (by decide) ?_
  refine lv_aload_n hx hb dX0_become_23 rfl (lv_at hl 0 rfl) ?_
  refine va_get (D := D) (ci := 0) (v := .ref a0_roads) (C := RX0) (T := TX0) (N := 8) hx hb htg ig_0 hown hK hP 0 rfl rfl 1 (by decide) (htg _ q_101) (fun _ h9 => h9) rfl dX0_become_24 ?_
  refine lv_iconst (v := 0) hx hb dX0_become_27 (by decide) ?_
  refine lv_aload_n hx hb dX0_become_28 rfl (lv_at hl 0 rfl) ?_
  refine va_get (D := D) (ci := 0) (v := .ref a0_roads) (C := RX0) (T := TX0) (N := 8) hx hb htg ig_0 hown hK hP 0 rfl rfl 1 (by decide) (htg _ q_101) (fun _ h9 => h9) rfl dX0_become_29 ?_
  refine va_alen (v := 168) hx hb hK hP 2 0 rfl rfl (by decide) dX0_become_32 ?_
  refine va_copyi (ty := .int) hx hb (by rw [hml]; exact hl.1.symm) hown (htg _ q_941) (htg _ q_347) (htg _ q_346) (htg _ q_74) hK hP hD hS 10 2 0 0 rfl rfl rfl rfl rfl (by decide) (by decide) (by decide) (by decide) (by decide) (fun _ _ => rfl) (Nat.le_of_ble_eq_true rfl) (Nat.le_of_ble_eq_true rfl) dX0_become_33 (fun H locs hP hD hS => ?_)
  have hP : va_P D vwCl [(a0, .inr (0, [.ref a0_counts, .ref a0_roads, .ref a0_bridges, .ref a0_waggons, .ref a0_parts, .ref a0_settings, .ref a0_trip, .int 0])), (a0_counts, .inl (E 0, 4, .inl (va_cpy (fun _ => 0) (fun _ => 0) 0 0 4))), (a0_roads, .inl (E 0, 168, .inl (va_cpy (fun _ => 0) (fun _ => 0) 0 0 168))), (a0_bridges, .inl (E 0, 160, .inl (fun _ => 0))), (a0_waggons, .inl (E 0, 15, .inl (fun _ => 0))), (a0_parts, .inl (E 0, 10, .inl (fun _ => 0))), (a0_settings, .inl (E 0, 3, .inl (upd (upd (fun _ => 0) 0 100) 1 2))), (a0_trip, .inl (E 0, 7, .inl (fun _ => 0))), (b0, .inr (0, [.ref b0_counts, .ref b0_roads, .ref b0_bridges, .ref b0_waggons, .ref b0_parts, .ref b0_settings, .ref b0_trip, .int 0])), (b0_counts, .inl (E 0, 4, .inl (fun _ => 0))), (b0_roads, .inl (E 0, 168, .inl (fun _ => 0))), (b0_bridges, .inl (E 0, 160, .inl (fun _ => 0))), (b0_waggons, .inl (E 0, 15, .inl (fun _ => 0))), (b0_parts, .inl (E 0, 10, .inl (fun _ => 0))), (b0_settings, .inl (E 0, 3, .inl (upd (upd (fun _ => 0) 0 100) 1 2))), (b0_trip, .inl (E 0, 7, .inl (fun _ => 0)))] H := hP
  have hD : va_D A [(a0, .inr (0, [.ref a0_counts, .ref a0_roads, .ref a0_bridges, .ref a0_waggons, .ref a0_parts, .ref a0_settings, .ref a0_trip, .int 0])), (a0_counts, .inl (E 0, 4, .inl (va_cpy (fun _ => 0) (fun _ => 0) 0 0 4))), (a0_roads, .inl (E 0, 168, .inl (va_cpy (fun _ => 0) (fun _ => 0) 0 0 168))), (a0_bridges, .inl (E 0, 160, .inl (fun _ => 0))), (a0_waggons, .inl (E 0, 15, .inl (fun _ => 0))), (a0_parts, .inl (E 0, 10, .inl (fun _ => 0))), (a0_settings, .inl (E 0, 3, .inl (upd (upd (fun _ => 0) 0 100) 1 2))), (a0_trip, .inl (E 0, 7, .inl (fun _ => 0))), (b0, .inr (0, [.ref b0_counts, .ref b0_roads, .ref b0_bridges, .ref b0_waggons, .ref b0_parts, .ref b0_settings, .ref b0_trip, .int 0])), (b0_counts, .inl (E 0, 4, .inl (fun _ => 0))), (b0_roads, .inl (E 0, 168, .inl (fun _ => 0))), (b0_bridges, .inl (E 0, 160, .inl (fun _ => 0))), (b0_waggons, .inl (E 0, 15, .inl (fun _ => 0))), (b0_parts, .inl (E 0, 10, .inl (fun _ => 0))), (b0_settings, .inl (E 0, 3, .inl (upd (upd (fun _ => 0) 0 100) 1 2))), (b0_trip, .inl (E 0, 7, .inl (fun _ => 0)))] := hD
  refine lv_aload_n hx hb dX0_become_36 rfl (lv_at hl 1 rfl) ?_
  refine va_get (D := D) (ci := 0) (v := .ref b0_bridges) (C := RX0) (T := TX0) (N := 8) hx hb htg ig_0 hown hK hP 8 rfl rfl 2 (by decide) (htg _ q_103) (fun _ h9 => h9) rfl dX0_become_37 ?_
  refine lv_iconst (v := 0) hx hb dX0_become_40 (by decide) ?_
  refine lv_aload_n hx hb dX0_become_41 rfl (lv_at hl 0 rfl) ?_
  refine va_get (D := D) (ci := 0) (v := .ref a0_bridges) (C := RX0) (T := TX0) (N := 8) hx hb htg ig_0 hown hK hP 0 rfl rfl 2 (by decide) (htg _ q_103) (fun _ h9 => h9) rfl dX0_become_42 ?_
  refine lv_iconst (v := 0) hx hb dX0_become_45 (by decide) ?_
  refine lv_aload_n hx hb dX0_become_46 rfl (lv_at hl 0 rfl) ?_
  refine va_get (D := D) (ci := 0) (v := .ref a0_bridges) (C := RX0) (T := TX0) (N := 8) hx hb htg ig_0 hown hK hP 0 rfl rfl 2 (by decide) (htg _ q_103) (fun _ h9 => h9) rfl dX0_become_47 ?_
  refine va_alen (v := 160) hx hb hK hP 3 0 rfl rfl (by decide) dX0_become_50 ?_
  refine va_copyi (ty := .int) hx hb (by rw [hml]; exact hl.1.symm) hown (htg _ q_941) (htg _ q_347) (htg _ q_346) (htg _ q_74) hK hP hD hS 11 3 0 0 rfl rfl rfl rfl rfl (by decide) (by decide) (by decide) (by decide) (by decide) (fun _ _ => rfl) (Nat.le_of_ble_eq_true rfl) (Nat.le_of_ble_eq_true rfl) dX0_become_51 (fun H locs hP hD hS => ?_)
  have hP : va_P D vwCl [(a0, .inr (0, [.ref a0_counts, .ref a0_roads, .ref a0_bridges, .ref a0_waggons, .ref a0_parts, .ref a0_settings, .ref a0_trip, .int 0])), (a0_counts, .inl (E 0, 4, .inl (va_cpy (fun _ => 0) (fun _ => 0) 0 0 4))), (a0_roads, .inl (E 0, 168, .inl (va_cpy (fun _ => 0) (fun _ => 0) 0 0 168))), (a0_bridges, .inl (E 0, 160, .inl (va_cpy (fun _ => 0) (fun _ => 0) 0 0 160))), (a0_waggons, .inl (E 0, 15, .inl (fun _ => 0))), (a0_parts, .inl (E 0, 10, .inl (fun _ => 0))), (a0_settings, .inl (E 0, 3, .inl (upd (upd (fun _ => 0) 0 100) 1 2))), (a0_trip, .inl (E 0, 7, .inl (fun _ => 0))), (b0, .inr (0, [.ref b0_counts, .ref b0_roads, .ref b0_bridges, .ref b0_waggons, .ref b0_parts, .ref b0_settings, .ref b0_trip, .int 0])), (b0_counts, .inl (E 0, 4, .inl (fun _ => 0))), (b0_roads, .inl (E 0, 168, .inl (fun _ => 0))), (b0_bridges, .inl (E 0, 160, .inl (fun _ => 0))), (b0_waggons, .inl (E 0, 15, .inl (fun _ => 0))), (b0_parts, .inl (E 0, 10, .inl (fun _ => 0))), (b0_settings, .inl (E 0, 3, .inl (upd (upd (fun _ => 0) 0 100) 1 2))), (b0_trip, .inl (E 0, 7, .inl (fun _ => 0)))] H := hP
  have hD : va_D A [(a0, .inr (0, [.ref a0_counts, .ref a0_roads, .ref a0_bridges, .ref a0_waggons, .ref a0_parts, .ref a0_settings, .ref a0_trip, .int 0])), (a0_counts, .inl (E 0, 4, .inl (va_cpy (fun _ => 0) (fun _ => 0) 0 0 4))), (a0_roads, .inl (E 0, 168, .inl (va_cpy (fun _ => 0) (fun _ => 0) 0 0 168))), (a0_bridges, .inl (E 0, 160, .inl (va_cpy (fun _ => 0) (fun _ => 0) 0 0 160))), (a0_waggons, .inl (E 0, 15, .inl (fun _ => 0))), (a0_parts, .inl (E 0, 10, .inl (fun _ => 0))), (a0_settings, .inl (E 0, 3, .inl (upd (upd (fun _ => 0) 0 100) 1 2))), (a0_trip, .inl (E 0, 7, .inl (fun _ => 0))), (b0, .inr (0, [.ref b0_counts, .ref b0_roads, .ref b0_bridges, .ref b0_waggons, .ref b0_parts, .ref b0_settings, .ref b0_trip, .int 0])), (b0_counts, .inl (E 0, 4, .inl (fun _ => 0))), (b0_roads, .inl (E 0, 168, .inl (fun _ => 0))), (b0_bridges, .inl (E 0, 160, .inl (fun _ => 0))), (b0_waggons, .inl (E 0, 15, .inl (fun _ => 0))), (b0_parts, .inl (E 0, 10, .inl (fun _ => 0))), (b0_settings, .inl (E 0, 3, .inl (upd (upd (fun _ => 0) 0 100) 1 2))), (b0_trip, .inl (E 0, 7, .inl (fun _ => 0)))] := hD
  refine lv_aload_n hx hb dX0_become_54 rfl (lv_at hl 1 rfl) ?_
  refine va_get (D := D) (ci := 0) (v := .ref b0_waggons) (C := RX0) (T := TX0) (N := 8) hx hb htg ig_0 hown hK hP 8 rfl rfl 3 (by decide) (htg _ q_104) (fun _ h9 => h9) rfl dX0_become_55 ?_
  refine lv_iconst (v := 0) hx hb dX0_become_58 (by decide) ?_
  refine lv_aload_n hx hb dX0_become_59 rfl (lv_at hl 0 rfl) ?_
  refine va_get (D := D) (ci := 0) (v := .ref a0_waggons) (C := RX0) (T := TX0) (N := 8) hx hb htg ig_0 hown hK hP 0 rfl rfl 3 (by decide) (htg _ q_104) (fun _ h9 => h9) rfl dX0_become_60 ?_
  refine lv_iconst (v := 0) hx hb dX0_become_63 (by decide) ?_
  refine lv_aload_n hx hb dX0_become_64 rfl (lv_at hl 0 rfl) ?_
  refine va_get (D := D) (ci := 0) (v := .ref a0_waggons) (C := RX0) (T := TX0) (N := 8) hx hb htg ig_0 hown hK hP 0 rfl rfl 3 (by decide) (htg _ q_104) (fun _ h9 => h9) rfl dX0_become_65 ?_
  refine va_alen (v := 15) hx hb hK hP 4 0 rfl rfl (by decide) dX0_become_68 ?_
  refine va_copyi (ty := .int) hx hb (by rw [hml]; exact hl.1.symm) hown (htg _ q_941) (htg _ q_347) (htg _ q_346) (htg _ q_74) hK hP hD hS 12 4 0 0 rfl rfl rfl rfl rfl (by decide) (by decide) (by decide) (by decide) (by decide) (fun _ _ => rfl) (Nat.le_of_ble_eq_true rfl) (Nat.le_of_ble_eq_true rfl) dX0_become_69 (fun H locs hP hD hS => ?_)
  have hP : va_P D vwCl [(a0, .inr (0, [.ref a0_counts, .ref a0_roads, .ref a0_bridges, .ref a0_waggons, .ref a0_parts, .ref a0_settings, .ref a0_trip, .int 0])), (a0_counts, .inl (E 0, 4, .inl (va_cpy (fun _ => 0) (fun _ => 0) 0 0 4))), (a0_roads, .inl (E 0, 168, .inl (va_cpy (fun _ => 0) (fun _ => 0) 0 0 168))), (a0_bridges, .inl (E 0, 160, .inl (va_cpy (fun _ => 0) (fun _ => 0) 0 0 160))), (a0_waggons, .inl (E 0, 15, .inl (va_cpy (fun _ => 0) (fun _ => 0) 0 0 15))), (a0_parts, .inl (E 0, 10, .inl (fun _ => 0))), (a0_settings, .inl (E 0, 3, .inl (upd (upd (fun _ => 0) 0 100) 1 2))), (a0_trip, .inl (E 0, 7, .inl (fun _ => 0))), (b0, .inr (0, [.ref b0_counts, .ref b0_roads, .ref b0_bridges, .ref b0_waggons, .ref b0_parts, .ref b0_settings, .ref b0_trip, .int 0])), (b0_counts, .inl (E 0, 4, .inl (fun _ => 0))), (b0_roads, .inl (E 0, 168, .inl (fun _ => 0))), (b0_bridges, .inl (E 0, 160, .inl (fun _ => 0))), (b0_waggons, .inl (E 0, 15, .inl (fun _ => 0))), (b0_parts, .inl (E 0, 10, .inl (fun _ => 0))), (b0_settings, .inl (E 0, 3, .inl (upd (upd (fun _ => 0) 0 100) 1 2))), (b0_trip, .inl (E 0, 7, .inl (fun _ => 0)))] H := hP
  have hD : va_D A [(a0, .inr (0, [.ref a0_counts, .ref a0_roads, .ref a0_bridges, .ref a0_waggons, .ref a0_parts, .ref a0_settings, .ref a0_trip, .int 0])), (a0_counts, .inl (E 0, 4, .inl (va_cpy (fun _ => 0) (fun _ => 0) 0 0 4))), (a0_roads, .inl (E 0, 168, .inl (va_cpy (fun _ => 0) (fun _ => 0) 0 0 168))), (a0_bridges, .inl (E 0, 160, .inl (va_cpy (fun _ => 0) (fun _ => 0) 0 0 160))), (a0_waggons, .inl (E 0, 15, .inl (va_cpy (fun _ => 0) (fun _ => 0) 0 0 15))), (a0_parts, .inl (E 0, 10, .inl (fun _ => 0))), (a0_settings, .inl (E 0, 3, .inl (upd (upd (fun _ => 0) 0 100) 1 2))), (a0_trip, .inl (E 0, 7, .inl (fun _ => 0))), (b0, .inr (0, [.ref b0_counts, .ref b0_roads, .ref b0_bridges, .ref b0_waggons, .ref b0_parts, .ref b0_settings, .ref b0_trip, .int 0])), (b0_counts, .inl (E 0, 4, .inl (fun _ => 0))), (b0_roads, .inl (E 0, 168, .inl (fun _ => 0))), (b0_bridges, .inl (E 0, 160, .inl (fun _ => 0))), (b0_waggons, .inl (E 0, 15, .inl (fun _ => 0))), (b0_parts, .inl (E 0, 10, .inl (fun _ => 0))), (b0_settings, .inl (E 0, 3, .inl (upd (upd (fun _ => 0) 0 100) 1 2))), (b0_trip, .inl (E 0, 7, .inl (fun _ => 0)))] := hD
  refine lv_aload_n hx hb dX0_become_72 rfl (lv_at hl 1 rfl) ?_
  refine va_get (D := D) (ci := 0) (v := .ref b0_parts) (C := RX0) (T := TX0) (N := 8) hx hb htg ig_0 hown hK hP 8 rfl rfl 4 (by decide) (htg _ q_105) (fun _ h9 => h9) rfl dX0_become_73 ?_
  refine lv_iconst (v := 0) hx hb dX0_become_76 (by decide) ?_
  refine lv_aload_n hx hb dX0_become_77 rfl (lv_at hl 0 rfl) ?_
  refine va_get (D := D) (ci := 0) (v := .ref a0_parts) (C := RX0) (T := TX0) (N := 8) hx hb htg ig_0 hown hK hP 0 rfl rfl 4 (by decide) (htg _ q_105) (fun _ h9 => h9) rfl dX0_become_78 ?_
  refine lv_iconst (v := 0) hx hb dX0_become_81 (by decide) ?_
  refine lv_aload_n hx hb dX0_become_82 rfl (lv_at hl 0 rfl) ?_
  refine va_get (D := D) (ci := 0) (v := .ref a0_parts) (C := RX0) (T := TX0) (N := 8) hx hb htg ig_0 hown hK hP 0 rfl rfl 4 (by decide) (htg _ q_105) (fun _ h9 => h9) rfl dX0_become_83 ?_
  refine va_alen (v := 10) hx hb hK hP 5 0 rfl rfl (by decide) dX0_become_86 ?_
  refine va_copyi (ty := .int) hx hb (by rw [hml]; exact hl.1.symm) hown (htg _ q_941) (htg _ q_347) (htg _ q_346) (htg _ q_74) hK hP hD hS 13 5 0 0 rfl rfl rfl rfl rfl (by decide) (by decide) (by decide) (by decide) (by decide) (fun _ _ => rfl) (Nat.le_of_ble_eq_true rfl) (Nat.le_of_ble_eq_true rfl) dX0_become_87 (fun H locs hP hD hS => ?_)
  have hP : va_P D vwCl [(a0, .inr (0, [.ref a0_counts, .ref a0_roads, .ref a0_bridges, .ref a0_waggons, .ref a0_parts, .ref a0_settings, .ref a0_trip, .int 0])), (a0_counts, .inl (E 0, 4, .inl (va_cpy (fun _ => 0) (fun _ => 0) 0 0 4))), (a0_roads, .inl (E 0, 168, .inl (va_cpy (fun _ => 0) (fun _ => 0) 0 0 168))), (a0_bridges, .inl (E 0, 160, .inl (va_cpy (fun _ => 0) (fun _ => 0) 0 0 160))), (a0_waggons, .inl (E 0, 15, .inl (va_cpy (fun _ => 0) (fun _ => 0) 0 0 15))), (a0_parts, .inl (E 0, 10, .inl (va_cpy (fun _ => 0) (fun _ => 0) 0 0 10))), (a0_settings, .inl (E 0, 3, .inl (upd (upd (fun _ => 0) 0 100) 1 2))), (a0_trip, .inl (E 0, 7, .inl (fun _ => 0))), (b0, .inr (0, [.ref b0_counts, .ref b0_roads, .ref b0_bridges, .ref b0_waggons, .ref b0_parts, .ref b0_settings, .ref b0_trip, .int 0])), (b0_counts, .inl (E 0, 4, .inl (fun _ => 0))), (b0_roads, .inl (E 0, 168, .inl (fun _ => 0))), (b0_bridges, .inl (E 0, 160, .inl (fun _ => 0))), (b0_waggons, .inl (E 0, 15, .inl (fun _ => 0))), (b0_parts, .inl (E 0, 10, .inl (fun _ => 0))), (b0_settings, .inl (E 0, 3, .inl (upd (upd (fun _ => 0) 0 100) 1 2))), (b0_trip, .inl (E 0, 7, .inl (fun _ => 0)))] H := hP
  have hD : va_D A [(a0, .inr (0, [.ref a0_counts, .ref a0_roads, .ref a0_bridges, .ref a0_waggons, .ref a0_parts, .ref a0_settings, .ref a0_trip, .int 0])), (a0_counts, .inl (E 0, 4, .inl (va_cpy (fun _ => 0) (fun _ => 0) 0 0 4))), (a0_roads, .inl (E 0, 168, .inl (va_cpy (fun _ => 0) (fun _ => 0) 0 0 168))), (a0_bridges, .inl (E 0, 160, .inl (va_cpy (fun _ => 0) (fun _ => 0) 0 0 160))), (a0_waggons, .inl (E 0, 15, .inl (va_cpy (fun _ => 0) (fun _ => 0) 0 0 15))), (a0_parts, .inl (E 0, 10, .inl (va_cpy (fun _ => 0) (fun _ => 0) 0 0 10))), (a0_settings, .inl (E 0, 3, .inl (upd (upd (fun _ => 0) 0 100) 1 2))), (a0_trip, .inl (E 0, 7, .inl (fun _ => 0))), (b0, .inr (0, [.ref b0_counts, .ref b0_roads, .ref b0_bridges, .ref b0_waggons, .ref b0_parts, .ref b0_settings, .ref b0_trip, .int 0])), (b0_counts, .inl (E 0, 4, .inl (fun _ => 0))), (b0_roads, .inl (E 0, 168, .inl (fun _ => 0))), (b0_bridges, .inl (E 0, 160, .inl (fun _ => 0))), (b0_waggons, .inl (E 0, 15, .inl (fun _ => 0))), (b0_parts, .inl (E 0, 10, .inl (fun _ => 0))), (b0_settings, .inl (E 0, 3, .inl (upd (upd (fun _ => 0) 0 100) 1 2))), (b0_trip, .inl (E 0, 7, .inl (fun _ => 0)))] := hD
  refine lv_aload_n hx hb dX0_become_90 rfl (lv_at hl 1 rfl) ?_
  refine va_get (D := D) (ci := 0) (v := .ref b0_settings) (C := RX0) (T := TX0) (N := 8) hx hb htg ig_0 hown hK hP 8 rfl rfl 5 (by decide) (htg _ q_106) (fun _ h9 => h9) rfl dX0_become_91 ?_
  refine lv_iconst (v := 0) hx hb dX0_become_94 (by decide) ?_
  refine lv_aload_n hx hb dX0_become_95 rfl (lv_at hl 0 rfl) ?_
  refine va_get (D := D) (ci := 0) (v := .ref a0_settings) (C := RX0) (T := TX0) (N := 8) hx hb htg ig_0 hown hK hP 0 rfl rfl 5 (by decide) (htg _ q_106) (fun _ h9 => h9) rfl dX0_become_96 ?_
  refine lv_iconst (v := 0) hx hb dX0_become_99 (by decide) ?_
  refine lv_aload_n hx hb dX0_become_100 rfl (lv_at hl 0 rfl) ?_
  refine va_get (D := D) (ci := 0) (v := .ref a0_settings) (C := RX0) (T := TX0) (N := 8) hx hb htg ig_0 hown hK hP 0 rfl rfl 5 (by decide) (htg _ q_106) (fun _ h9 => h9) rfl dX0_become_101 ?_
  refine va_alen (v := 3) hx hb hK hP 6 0 rfl rfl (by decide) dX0_become_104 ?_
  refine va_copyi (ty := .int) hx hb (by rw [hml]; exact hl.1.symm) hown (htg _ q_941) (htg _ q_347) (htg _ q_346) (htg _ q_74) hK hP hD hS 14 6 0 0 rfl rfl rfl rfl rfl (by decide) (by decide) (by decide) (by decide) (by decide) (fun _ _ => rfl) (Nat.le_of_ble_eq_true rfl) (Nat.le_of_ble_eq_true rfl) dX0_become_105 (fun H locs hP hD hS => ?_)
  have hP : va_P D vwCl [(a0, .inr (0, [.ref a0_counts, .ref a0_roads, .ref a0_bridges, .ref a0_waggons, .ref a0_parts, .ref a0_settings, .ref a0_trip, .int 0])), (a0_counts, .inl (E 0, 4, .inl (va_cpy (fun _ => 0) (fun _ => 0) 0 0 4))), (a0_roads, .inl (E 0, 168, .inl (va_cpy (fun _ => 0) (fun _ => 0) 0 0 168))), (a0_bridges, .inl (E 0, 160, .inl (va_cpy (fun _ => 0) (fun _ => 0) 0 0 160))), (a0_waggons, .inl (E 0, 15, .inl (va_cpy (fun _ => 0) (fun _ => 0) 0 0 15))), (a0_parts, .inl (E 0, 10, .inl (va_cpy (fun _ => 0) (fun _ => 0) 0 0 10))), (a0_settings, .inl (E 0, 3, .inl (va_cpy (upd (upd (fun _ => 0) 0 100) 1 2) (upd (upd (fun _ => 0) 0 100) 1 2) 0 0 3))), (a0_trip, .inl (E 0, 7, .inl (fun _ => 0))), (b0, .inr (0, [.ref b0_counts, .ref b0_roads, .ref b0_bridges, .ref b0_waggons, .ref b0_parts, .ref b0_settings, .ref b0_trip, .int 0])), (b0_counts, .inl (E 0, 4, .inl (fun _ => 0))), (b0_roads, .inl (E 0, 168, .inl (fun _ => 0))), (b0_bridges, .inl (E 0, 160, .inl (fun _ => 0))), (b0_waggons, .inl (E 0, 15, .inl (fun _ => 0))), (b0_parts, .inl (E 0, 10, .inl (fun _ => 0))), (b0_settings, .inl (E 0, 3, .inl (upd (upd (fun _ => 0) 0 100) 1 2))), (b0_trip, .inl (E 0, 7, .inl (fun _ => 0)))] H := hP
  have hD : va_D A [(a0, .inr (0, [.ref a0_counts, .ref a0_roads, .ref a0_bridges, .ref a0_waggons, .ref a0_parts, .ref a0_settings, .ref a0_trip, .int 0])), (a0_counts, .inl (E 0, 4, .inl (va_cpy (fun _ => 0) (fun _ => 0) 0 0 4))), (a0_roads, .inl (E 0, 168, .inl (va_cpy (fun _ => 0) (fun _ => 0) 0 0 168))), (a0_bridges, .inl (E 0, 160, .inl (va_cpy (fun _ => 0) (fun _ => 0) 0 0 160))), (a0_waggons, .inl (E 0, 15, .inl (va_cpy (fun _ => 0) (fun _ => 0) 0 0 15))), (a0_parts, .inl (E 0, 10, .inl (va_cpy (fun _ => 0) (fun _ => 0) 0 0 10))), (a0_settings, .inl (E 0, 3, .inl (va_cpy (upd (upd (fun _ => 0) 0 100) 1 2) (upd (upd (fun _ => 0) 0 100) 1 2) 0 0 3))), (a0_trip, .inl (E 0, 7, .inl (fun _ => 0))), (b0, .inr (0, [.ref b0_counts, .ref b0_roads, .ref b0_bridges, .ref b0_waggons, .ref b0_parts, .ref b0_settings, .ref b0_trip, .int 0])), (b0_counts, .inl (E 0, 4, .inl (fun _ => 0))), (b0_roads, .inl (E 0, 168, .inl (fun _ => 0))), (b0_bridges, .inl (E 0, 160, .inl (fun _ => 0))), (b0_waggons, .inl (E 0, 15, .inl (fun _ => 0))), (b0_parts, .inl (E 0, 10, .inl (fun _ => 0))), (b0_settings, .inl (E 0, 3, .inl (upd (upd (fun _ => 0) 0 100) 1 2))), (b0_trip, .inl (E 0, 7, .inl (fun _ => 0)))] := hD
  refine lv_aload_n hx hb dX0_become_108 rfl (lv_at hl 1 rfl) ?_
  refine va_get (D := D) (ci := 0) (v := .ref b0_trip) (C := RX0) (T := TX0) (N := 8) hx hb htg ig_0 hown hK hP 8 rfl rfl 6 (by decide) (htg _ q_111) (fun _ h9 => h9) rfl dX0_become_109 ?_
  refine lv_iconst (v := 0) hx hb dX0_become_112 (by decide) ?_
  refine lv_aload_n hx hb dX0_become_113 rfl (lv_at hl 0 rfl) ?_
  refine va_get (D := D) (ci := 0) (v := .ref a0_trip) (C := RX0) (T := TX0) (N := 8) hx hb htg ig_0 hown hK hP 0 rfl rfl 6 (by decide) (htg _ q_111) (fun _ h9 => h9) rfl dX0_become_114 ?_
  refine lv_iconst (v := 0) hx hb dX0_become_117 (by decide) ?_
  refine lv_aload_n hx hb dX0_become_118 rfl (lv_at hl 0 rfl) ?_
  refine va_get (D := D) (ci := 0) (v := .ref a0_trip) (C := RX0) (T := TX0) (N := 8) hx hb htg ig_0 hown hK hP 0 rfl rfl 6 (by decide) (htg _ q_111) (fun _ h9 => h9) rfl dX0_become_119 ?_
  refine va_alen (v := 7) hx hb hK hP 7 0 rfl rfl (by decide) dX0_become_122 ?_
  refine va_copyi (ty := .int) hx hb (by rw [hml]; exact hl.1.symm) hown (htg _ q_941) (htg _ q_347) (htg _ q_346) (htg _ q_74) hK hP hD hS 15 7 0 0 rfl rfl rfl rfl rfl (by decide) (by decide) (by decide) (by decide) (by decide) (fun _ _ => rfl) (Nat.le_of_ble_eq_true rfl) (Nat.le_of_ble_eq_true rfl) dX0_become_123 (fun H locs hP hD hS => ?_)
  have hP : va_P D vwCl [(a0, .inr (0, [.ref a0_counts, .ref a0_roads, .ref a0_bridges, .ref a0_waggons, .ref a0_parts, .ref a0_settings, .ref a0_trip, .int 0])), (a0_counts, .inl (E 0, 4, .inl (va_cpy (fun _ => 0) (fun _ => 0) 0 0 4))), (a0_roads, .inl (E 0, 168, .inl (va_cpy (fun _ => 0) (fun _ => 0) 0 0 168))), (a0_bridges, .inl (E 0, 160, .inl (va_cpy (fun _ => 0) (fun _ => 0) 0 0 160))), (a0_waggons, .inl (E 0, 15, .inl (va_cpy (fun _ => 0) (fun _ => 0) 0 0 15))), (a0_parts, .inl (E 0, 10, .inl (va_cpy (fun _ => 0) (fun _ => 0) 0 0 10))), (a0_settings, .inl (E 0, 3, .inl (va_cpy (upd (upd (fun _ => 0) 0 100) 1 2) (upd (upd (fun _ => 0) 0 100) 1 2) 0 0 3))), (a0_trip, .inl (E 0, 7, .inl (va_cpy (fun _ => 0) (fun _ => 0) 0 0 7))), (b0, .inr (0, [.ref b0_counts, .ref b0_roads, .ref b0_bridges, .ref b0_waggons, .ref b0_parts, .ref b0_settings, .ref b0_trip, .int 0])), (b0_counts, .inl (E 0, 4, .inl (fun _ => 0))), (b0_roads, .inl (E 0, 168, .inl (fun _ => 0))), (b0_bridges, .inl (E 0, 160, .inl (fun _ => 0))), (b0_waggons, .inl (E 0, 15, .inl (fun _ => 0))), (b0_parts, .inl (E 0, 10, .inl (fun _ => 0))), (b0_settings, .inl (E 0, 3, .inl (upd (upd (fun _ => 0) 0 100) 1 2))), (b0_trip, .inl (E 0, 7, .inl (fun _ => 0)))] H := hP
  have hD : va_D A [(a0, .inr (0, [.ref a0_counts, .ref a0_roads, .ref a0_bridges, .ref a0_waggons, .ref a0_parts, .ref a0_settings, .ref a0_trip, .int 0])), (a0_counts, .inl (E 0, 4, .inl (va_cpy (fun _ => 0) (fun _ => 0) 0 0 4))), (a0_roads, .inl (E 0, 168, .inl (va_cpy (fun _ => 0) (fun _ => 0) 0 0 168))), (a0_bridges, .inl (E 0, 160, .inl (va_cpy (fun _ => 0) (fun _ => 0) 0 0 160))), (a0_waggons, .inl (E 0, 15, .inl (va_cpy (fun _ => 0) (fun _ => 0) 0 0 15))), (a0_parts, .inl (E 0, 10, .inl (va_cpy (fun _ => 0) (fun _ => 0) 0 0 10))), (a0_settings, .inl (E 0, 3, .inl (va_cpy (upd (upd (fun _ => 0) 0 100) 1 2) (upd (upd (fun _ => 0) 0 100) 1 2) 0 0 3))), (a0_trip, .inl (E 0, 7, .inl (va_cpy (fun _ => 0) (fun _ => 0) 0 0 7))), (b0, .inr (0, [.ref b0_counts, .ref b0_roads, .ref b0_bridges, .ref b0_waggons, .ref b0_parts, .ref b0_settings, .ref b0_trip, .int 0])), (b0_counts, .inl (E 0, 4, .inl (fun _ => 0))), (b0_roads, .inl (E 0, 168, .inl (fun _ => 0))), (b0_bridges, .inl (E 0, 160, .inl (fun _ => 0))), (b0_waggons, .inl (E 0, 15, .inl (fun _ => 0))), (b0_parts, .inl (E 0, 10, .inl (fun _ => 0))), (b0_settings, .inl (E 0, 3, .inl (upd (upd (fun _ => 0) 0 100) 1 2))), (b0_trip, .inl (E 0, 7, .inl (fun _ => 0)))] := hD
  refine lv_aload_n hx hb dX0_become_126 rfl (lv_at hl 0 rfl) ?_
  refine lv_aload_n hx hb dX0_become_127 rfl (lv_at hl 1 rfl) ?_
  refine va_get (D := D) (ci := 0) (v := .int 0) (C := RX0) (T := TX0) (N := 8) hx hb htg ig_0 hown hK hP 8 rfl rfl 7 (by decide) (htg _ q_113) (fun _ h9 => h9) rfl dX0_become_128 ?_
  refine va_put (D := D) (ci := 0) (v := .int 0) (ty := .boolean) (C := RX0) (T := TX0) (N := 8) hx hb htg ig_0 tyX0 tyX0_ok nmX0 hown hK hP hD hS 0 rfl rfl 7 (by decide) (htg _ q_113) (fun _ h9 => h9) rfl (by decide +kernel) (by decide) (by decide) (Nat.le_of_ble_eq_true rfl) dX0_become_131 (fun H locs hP hD hS => ?_)
  have hP : va_P D vwCl [(a0, .inr (0, [.ref a0_counts, .ref a0_roads, .ref a0_bridges, .ref a0_waggons, .ref a0_parts, .ref a0_settings, .ref a0_trip, .int 0])), (a0_counts, .inl (E 0, 4, .inl (va_cpy (fun _ => 0) (fun _ => 0) 0 0 4))), (a0_roads, .inl (E 0, 168, .inl (va_cpy (fun _ => 0) (fun _ => 0) 0 0 168))), (a0_bridges, .inl (E 0, 160, .inl (va_cpy (fun _ => 0) (fun _ => 0) 0 0 160))), (a0_waggons, .inl (E 0, 15, .inl (va_cpy (fun _ => 0) (fun _ => 0) 0 0 15))), (a0_parts, .inl (E 0, 10, .inl (va_cpy (fun _ => 0) (fun _ => 0) 0 0 10))), (a0_settings, .inl (E 0, 3, .inl (va_cpy (upd (upd (fun _ => 0) 0 100) 1 2) (upd (upd (fun _ => 0) 0 100) 1 2) 0 0 3))), (a0_trip, .inl (E 0, 7, .inl (va_cpy (fun _ => 0) (fun _ => 0) 0 0 7))), (b0, .inr (0, [.ref b0_counts, .ref b0_roads, .ref b0_bridges, .ref b0_waggons, .ref b0_parts, .ref b0_settings, .ref b0_trip, .int 0])), (b0_counts, .inl (E 0, 4, .inl (fun _ => 0))), (b0_roads, .inl (E 0, 168, .inl (fun _ => 0))), (b0_bridges, .inl (E 0, 160, .inl (fun _ => 0))), (b0_waggons, .inl (E 0, 15, .inl (fun _ => 0))), (b0_parts, .inl (E 0, 10, .inl (fun _ => 0))), (b0_settings, .inl (E 0, 3, .inl (upd (upd (fun _ => 0) 0 100) 1 2))), (b0_trip, .inl (E 0, 7, .inl (fun _ => 0)))] H := hP
  have hD : va_D A [(a0, .inr (0, [.ref a0_counts, .ref a0_roads, .ref a0_bridges, .ref a0_waggons, .ref a0_parts, .ref a0_settings, .ref a0_trip, .int 0])), (a0_counts, .inl (E 0, 4, .inl (va_cpy (fun _ => 0) (fun _ => 0) 0 0 4))), (a0_roads, .inl (E 0, 168, .inl (va_cpy (fun _ => 0) (fun _ => 0) 0 0 168))), (a0_bridges, .inl (E 0, 160, .inl (va_cpy (fun _ => 0) (fun _ => 0) 0 0 160))), (a0_waggons, .inl (E 0, 15, .inl (va_cpy (fun _ => 0) (fun _ => 0) 0 0 15))), (a0_parts, .inl (E 0, 10, .inl (va_cpy (fun _ => 0) (fun _ => 0) 0 0 10))), (a0_settings, .inl (E 0, 3, .inl (va_cpy (upd (upd (fun _ => 0) 0 100) 1 2) (upd (upd (fun _ => 0) 0 100) 1 2) 0 0 3))), (a0_trip, .inl (E 0, 7, .inl (va_cpy (fun _ => 0) (fun _ => 0) 0 0 7))), (b0, .inr (0, [.ref b0_counts, .ref b0_roads, .ref b0_bridges, .ref b0_waggons, .ref b0_parts, .ref b0_settings, .ref b0_trip, .int 0])), (b0_counts, .inl (E 0, 4, .inl (fun _ => 0))), (b0_roads, .inl (E 0, 168, .inl (fun _ => 0))), (b0_bridges, .inl (E 0, 160, .inl (fun _ => 0))), (b0_waggons, .inl (E 0, 15, .inl (fun _ => 0))), (b0_parts, .inl (E 0, 10, .inl (fun _ => 0))), (b0_settings, .inl (E 0, 3, .inl (upd (upd (fun _ => 0) 0 100) 1 2))), (b0_trip, .inl (E 0, 7, .inl (fun _ => 0)))] := hD
  refine W.widen (k := 0) (n := 0) (Nat.le_of_ble_eq_true rfl) (Nat.le_of_ble_eq_true rfl) ?_
  exact W.vret hx hb hr (fun t ht hW => ⟨⟨(), rfl, trivial, ⟨by rw [ht]; exact hP.sub [] rfl, hD.sub [] (by decide) rfl⟩⟩, hS.F ht⟩) hS.2.2 dX0_become_134
set_option maxHeartbeats 4000000 in
set_option maxRecDepth 100000 in
theorem c_X6_image (l : Launch) (D : va_G) (E : Nat → ClassId) (G : Nat → Nat) (sz : Nat) (a0 : Nat) (a0_now : Nat) (a0_kept : Nat) (a0_ways : Nat) (a0_shelves : Nat) (a0_tape : Nat) (a0_reader : Nat) (a0_refusals : Nat) (a0_bestPack : Nat) (a0_kept_counts : Nat) (a0_kept_roads : Nat) (a0_kept_bridges : Nat) (a0_kept_waggons : Nat) (a0_kept_parts : Nat) (a0_kept_settings : Nat) (a0_kept_trip : Nat) (a0_now_counts : Nat) (a0_now_roads : Nat) (a0_now_bridges : Nat) (a0_now_waggons : Nat) (a0_now_parts : Nat) (a0_now_settings : Nat) (a0_now_trip : Nat) : Met l yX6_image (oh_w yX6_image cX6_image 1 (some .int)) ({ frames := 2, cells := 0, slots := 0, locals := 39 }) (oh_Pm D E G [.ref a0] [(a0, .inr (6, [.ref a0_now, .ref a0_kept, .int 0, .ref a0_ways, .ref a0_shelves, .ref a0_tape, .ref a0_reader, .ref a0_refusals, .ref a0_bestPack])), (a0_kept, .inr (0, [.ref a0_kept_counts, .ref a0_kept_roads, .ref a0_kept_bridges, .ref a0_kept_waggons, .ref a0_kept_parts, .ref a0_kept_settings, .ref a0_kept_trip, .int 0])), (a0_kept_counts, .inl (E 0, 4, .inl (fun _ => 0))), (a0_kept_roads, .inl (E 0, 168, .inl (fun _ => 0))), (a0_kept_bridges, .inl (E 0, 160, .inl (fun _ => 0))), (a0_kept_waggons, .inl (E 0, 15, .inl (fun _ => 0))), (a0_kept_parts, .inl (E 0, 10, .inl (fun _ => 0))), (a0_kept_settings, .inl (E 0, 3, .inl (upd (upd (fun _ => 0) 0 100) 1 2))), (a0_kept_trip, .inl (E 0, 7, .inl (fun _ => 0))), (a0_now, .inr (0, [.ref a0_now_counts, .ref a0_now_roads, .ref a0_now_bridges, .ref a0_now_waggons, .ref a0_now_parts, .ref a0_now_settings, .ref a0_now_trip, .int 0])), (a0_now_counts, .inl (E 0, 4, .inl (fun _ => 0))), (a0_now_roads, .inl (E 0, 168, .inl (fun _ => 0))), (a0_now_bridges, .inl (E 0, 160, .inl (fun _ => 0))), (a0_now_waggons, .inl (E 0, 15, .inl (fun _ => 0))), (a0_now_parts, .inl (E 0, 10, .inl (fun _ => 0))), (a0_now_settings, .inl (E 0, 3, .inl (upd (upd (fun _ => 0) 0 100) 1 2))), (a0_now_trip, .inl (E 0, 7, .inl (fun _ => 0)))] sz) (va_Qi (fun r (_ : Unit) => r = 1) (oh_B D (va_A [(a0, .inr (6, [.ref a0_now, .ref a0_kept, .int 0, .ref a0_ways, .ref a0_shelves, .ref a0_tape, .ref a0_reader, .ref a0_refusals, .ref a0_bestPack])), (a0_kept, .inr (0, [.ref a0_kept_counts, .ref a0_kept_roads, .ref a0_kept_bridges, .ref a0_kept_waggons, .ref a0_kept_parts, .ref a0_kept_settings, .ref a0_kept_trip, .int 0])), (a0_kept_counts, .inl (E 0, 4, .inl (fun _ => 0))), (a0_kept_roads, .inl (E 0, 168, .inl (fun _ => 0))), (a0_kept_bridges, .inl (E 0, 160, .inl (fun _ => 0))), (a0_kept_waggons, .inl (E 0, 15, .inl (fun _ => 0))), (a0_kept_parts, .inl (E 0, 10, .inl (fun _ => 0))), (a0_kept_settings, .inl (E 0, 3, .inl (upd (upd (fun _ => 0) 0 100) 1 2))), (a0_kept_trip, .inl (E 0, 7, .inl (fun _ => 0))), (a0_now, .inr (0, [.ref a0_now_counts, .ref a0_now_roads, .ref a0_now_bridges, .ref a0_now_waggons, .ref a0_now_parts, .ref a0_now_settings, .ref a0_now_trip, .int 0])), (a0_now_counts, .inl (E 0, 4, .inl (fun _ => 0))), (a0_now_roads, .inl (E 0, 168, .inl (fun _ => 0))), (a0_now_bridges, .inl (E 0, 160, .inl (fun _ => 0))), (a0_now_waggons, .inl (E 0, 15, .inl (fun _ => 0))), (a0_now_parts, .inl (E 0, 10, .inl (fun _ => 0))), (a0_now_settings, .inl (E 0, 3, .inl (upd (upd (fun _ => 0) 0 100) 1 2))), (a0_now_trip, .inl (E 0, 7, .inl (fun _ => 0)))] sz) (fun _ => [])) (va_A [(a0, .inr (6, [.ref a0_now, .ref a0_kept, .int 0, .ref a0_ways, .ref a0_shelves, .ref a0_tape, .ref a0_reader, .ref a0_refusals, .ref a0_bestPack])), (a0_kept, .inr (0, [.ref a0_kept_counts, .ref a0_kept_roads, .ref a0_kept_bridges, .ref a0_kept_waggons, .ref a0_kept_parts, .ref a0_kept_settings, .ref a0_kept_trip, .int 0])), (a0_kept_counts, .inl (E 0, 4, .inl (fun _ => 0))), (a0_kept_roads, .inl (E 0, 168, .inl (fun _ => 0))), (a0_kept_bridges, .inl (E 0, 160, .inl (fun _ => 0))), (a0_kept_waggons, .inl (E 0, 15, .inl (fun _ => 0))), (a0_kept_parts, .inl (E 0, 10, .inl (fun _ => 0))), (a0_kept_settings, .inl (E 0, 3, .inl (upd (upd (fun _ => 0) 0 100) 1 2))), (a0_kept_trip, .inl (E 0, 7, .inl (fun _ => 0))), (a0_now, .inr (0, [.ref a0_now_counts, .ref a0_now_roads, .ref a0_now_bridges, .ref a0_now_waggons, .ref a0_now_parts, .ref a0_now_settings, .ref a0_now_trip, .int 0])), (a0_now_counts, .inl (E 0, 4, .inl (fun _ => 0))), (a0_now_roads, .inl (E 0, 168, .inl (fun _ => 0))), (a0_now_bridges, .inl (E 0, 160, .inl (fun _ => 0))), (a0_now_waggons, .inl (E 0, 15, .inl (fun _ => 0))), (a0_now_parts, .inl (E 0, 10, .inl (fun _ => 0))), (a0_now_settings, .inl (E 0, 3, .inl (upd (upd (fun _ => 0) 0 100) 1 2))), (a0_now_trip, .inl (E 0, 7, .inl (fun _ => 0)))] sz)) 0 0 (va_A [(a0, .inr (6, [.ref a0_now, .ref a0_kept, .int 0, .ref a0_ways, .ref a0_shelves, .ref a0_tape, .ref a0_reader, .ref a0_refusals, .ref a0_bestPack])), (a0_kept, .inr (0, [.ref a0_kept_counts, .ref a0_kept_roads, .ref a0_kept_bridges, .ref a0_kept_waggons, .ref a0_kept_parts, .ref a0_kept_settings, .ref a0_kept_trip, .int 0])), (a0_kept_counts, .inl (E 0, 4, .inl (fun _ => 0))), (a0_kept_roads, .inl (E 0, 168, .inl (fun _ => 0))), (a0_kept_bridges, .inl (E 0, 160, .inl (fun _ => 0))), (a0_kept_waggons, .inl (E 0, 15, .inl (fun _ => 0))), (a0_kept_parts, .inl (E 0, 10, .inl (fun _ => 0))), (a0_kept_settings, .inl (E 0, 3, .inl (upd (upd (fun _ => 0) 0 100) 1 2))), (a0_kept_trip, .inl (E 0, 7, .inl (fun _ => 0))), (a0_now, .inr (0, [.ref a0_now_counts, .ref a0_now_roads, .ref a0_now_bridges, .ref a0_now_waggons, .ref a0_now_parts, .ref a0_now_settings, .ref a0_now_trip, .int 0])), (a0_now_counts, .inl (E 0, 4, .inl (fun _ => 0))), (a0_now_roads, .inl (E 0, 168, .inl (fun _ => 0))), (a0_now_bridges, .inl (E 0, 160, .inl (fun _ => 0))), (a0_now_waggons, .inl (E 0, 15, .inl (fun _ => 0))), (a0_now_parts, .inl (E 0, 10, .inl (fun _ => 0))), (a0_now_settings, .inl (E 0, 3, .inl (upd (upd (fun _ => 0) 0 100) 1 2))), (a0_now_trip, .inl (E 0, 7, .inl (fun _ => 0)))] sz) := by
  refine Met.ofW (cc := cX6_image) (maxL := 1) (ret := (some .int)) (by decide) rfl ?_
  intro p e s m args below meth c s₁ B hml hv
  obtain ⟨rfl, hsz, hP, hK, hD0, hG⟩ := hv
  have hx := B.exec
  have hb := B.bytes
  have hr := B.returns
  have hts := atoms_spec (ws := (oh_w yX6_image cX6_image 1 (some .int))) B.pre
  have htg : ∀ w ∈ oh_t, w.before _ s = true := fun w h => hts w (List.mem_cons_of_mem _ h)
  have hown : s.vm.findClass RX6 = some m.cls := findClass_of_methodNamed B.named
  have hlocks := B.notSynchronized
  subst hsz
  have hD := hD0.self (sz := s.heap.size)
  generalize hAe : va_A [(a0, .inr (6, [.ref a0_now, .ref a0_kept, .int 0, .ref a0_ways, .ref a0_shelves, .ref a0_tape, .ref a0_reader, .ref a0_refusals, .ref a0_bestPack])), (a0_kept, .inr (0, [.ref a0_kept_counts, .ref a0_kept_roads, .ref a0_kept_bridges, .ref a0_kept_waggons, .ref a0_kept_parts, .ref a0_kept_settings, .ref a0_kept_trip, .int 0])), (a0_kept_counts, .inl (E 0, 4, .inl (fun _ => 0))), (a0_kept_roads, .inl (E 0, 168, .inl (fun _ => 0))), (a0_kept_bridges, .inl (E 0, 160, .inl (fun _ => 0))), (a0_kept_waggons, .inl (E 0, 15, .inl (fun _ => 0))), (a0_kept_parts, .inl (E 0, 10, .inl (fun _ => 0))), (a0_kept_settings, .inl (E 0, 3, .inl (upd (upd (fun _ => 0) 0 100) 1 2))), (a0_kept_trip, .inl (E 0, 7, .inl (fun _ => 0))), (a0_now, .inr (0, [.ref a0_now_counts, .ref a0_now_roads, .ref a0_now_bridges, .ref a0_now_waggons, .ref a0_now_parts, .ref a0_now_settings, .ref a0_now_trip, .int 0])), (a0_now_counts, .inl (E 0, 4, .inl (fun _ => 0))), (a0_now_roads, .inl (E 0, 168, .inl (fun _ => 0))), (a0_now_bridges, .inl (E 0, 160, .inl (fun _ => 0))), (a0_now_waggons, .inl (E 0, 15, .inl (fun _ => 0))), (a0_now_parts, .inl (E 0, 10, .inl (fun _ => 0))), (a0_now_settings, .inl (E 0, 3, .inl (upd (upd (fun _ => 0) 0 100) 1 2))), (a0_now_trip, .inl (E 0, 7, .inl (fun _ => 0)))] s.heap.size = A at hD hG ⊢
  have hA : ∀ q : Nat, s.heap.size ≤ q → A q := fun q h => by rw [← hAe]; exact Or.inr h
  have hS : va_S A s.heap s.heap [] := va_S.rf
  have hP : va_P D vwCl [(a0, .inr (6, [.ref a0_now, .ref a0_kept, .int 0, .ref a0_ways, .ref a0_shelves, .ref a0_tape, .ref a0_reader, .ref a0_refusals, .ref a0_bestPack])), (a0_kept, .inr (0, [.ref a0_kept_counts, .ref a0_kept_roads, .ref a0_kept_bridges, .ref a0_kept_waggons, .ref a0_kept_parts, .ref a0_kept_settings, .ref a0_kept_trip, .int 0])), (a0_kept_counts, .inl (E 0, 4, .inl (fun _ => 0))), (a0_kept_roads, .inl (E 0, 168, .inl (fun _ => 0))), (a0_kept_bridges, .inl (E 0, 160, .inl (fun _ => 0))), (a0_kept_waggons, .inl (E 0, 15, .inl (fun _ => 0))), (a0_kept_parts, .inl (E 0, 10, .inl (fun _ => 0))), (a0_kept_settings, .inl (E 0, 3, .inl (upd (upd (fun _ => 0) 0 100) 1 2))), (a0_kept_trip, .inl (E 0, 7, .inl (fun _ => 0))), (a0_now, .inr (0, [.ref a0_now_counts, .ref a0_now_roads, .ref a0_now_bridges, .ref a0_now_waggons, .ref a0_now_parts, .ref a0_now_settings, .ref a0_now_trip, .int 0])), (a0_now_counts, .inl (E 0, 4, .inl (fun _ => 0))), (a0_now_roads, .inl (E 0, 168, .inl (fun _ => 0))), (a0_now_bridges, .inl (E 0, 160, .inl (fun _ => 0))), (a0_now_waggons, .inl (E 0, 15, .inl (fun _ => 0))), (a0_now_parts, .inl (E 0, 10, .inl (fun _ => 0))), (a0_now_settings, .inl (E 0, 3, .inl (upd (upd (fun _ => 0) 0 100) 1 2))), (a0_now_trip, .inl (E 0, 7, .inl (fun _ => 0)))] s.heap := hP
  have hl := lv_entry ([.ref a0]) (n := 1) (Nat.le_of_ble_eq_true rfl)
  rw [lg_entry_eq]
  generalize (lg_sl ([.ref a0]) ++ List.replicate (1 - (lg_sl ([.ref a0])).length) Slot.unset).toArray = ls at hl ⊢
  have hl : lv_has ls 1 [(0, .ref a0)] := hl
  refine lv_aload_n hx hb dX6_image_0 rfl (lv_at hl 0 rfl) ?_
  refine va_get (D := D) (ci := 6) (v := .ref a0_kept) (C := RX6) (T := TX6) (N := 9) hx hb htg ig_6 hown hK hP 0 rfl rfl 1 (by decide) (htg _ q_259) (fun _ h9 => h9) rfl dX6_image_1 ?_
  refine lv_aload_n hx hb dX6_image_4 rfl (lv_at hl 0 rfl) ?_
  refine va_get (D := D) (ci := 6) (v := .ref a0_now) (C := RX6) (T := TX6) (N := 9) hx hb htg ig_6 hown hK hP 0 rfl rfl 0 (by decide) (htg _ q_258) (fun _ h9 => h9) rfl dX6_image_5 ?_
  refine oh_mVv (As := [.ref a0_now]) (rest := []) (wr := [(a0, .inr (6, [.ref a0_now, .ref a0_kept, .int 0, .ref a0_ways, .ref a0_shelves, .ref a0_tape, .ref a0_reader, .ref a0_refusals, .ref a0_bestPack]))]) ⟨hx, hb, hml, hown, htg⟩ (c_X0_become l D E G s.heap.size a0_kept a0_now a0_kept_counts a0_kept_roads a0_kept_bridges a0_kept_waggons a0_kept_parts a0_kept_settings a0_kept_trip a0_now_counts a0_now_roads a0_now_bridges a0_now_waggons a0_now_parts a0_now_settings a0_now_trip) (cwV 1 htg (oh_gV q_937 q_938 q_939 q_67 q_940) rfl rfl rfl pdVX0_become ⟨Nat.le_of_ble_eq_true rfl, Nat.le_of_ble_eq_true rfl⟩) hK hP hD hG hS hA [1, 2, 3, 4, 5, 6, 7, 8, 9, 10, 11, 12, 13, 14, 15, 16] [0] rfl rfl (by decide) (by decide) (by decide) (va_recv hK hP (ci := 0) (q0 := 1) rfl rfl) rfl hl.1 rfl (Nat.le_of_ble_eq_true rfl) dX6_image_8 ⟨Nat.le_of_ble_eq_true rfl, Nat.le_of_ble_eq_true rfl⟩ (fun u H locs hw hP hD hS => ?_)
  have hP : va_P D vwCl [(a0, .inr (6, [.ref a0_now, .ref a0_kept, .int 0, .ref a0_ways, .ref a0_shelves, .ref a0_tape, .ref a0_reader, .ref a0_refusals, .ref a0_bestPack]))] H := hP
  have hD : va_D A [(a0, .inr (6, [.ref a0_now, .ref a0_kept, .int 0, .ref a0_ways, .ref a0_shelves, .ref a0_tape, .ref a0_reader, .ref a0_refusals, .ref a0_bestPack]))] := hD
  refine W.widen (k := 0) (n := 0) (Nat.le_refl _) (Nat.le_refl _) ?_
  refine lv_aload_n hx hb dX6_image_11 rfl (lv_at hl 0 rfl) ?_
  refine lv_iconst (v := 1) hx hb dX6_image_12 (by decide) ?_
  refine va_put (D := D) (ci := 6) (v := .int 1) (ty := .boolean) (C := RX6) (T := TX6) (N := 9) hx hb htg ig_6 tyX6 tyX6_ok nmX6 hown hK hP hD hS 0 rfl rfl 2 (by decide) (htg _ q_260) (fun _ h9 => h9) rfl (by decide +kernel) (by decide) (by decide) (Nat.le_of_ble_eq_true rfl) dX6_image_13 (fun H locs hP hD hS => ?_)
  have hP : va_P D vwCl [(a0, .inr (6, [.ref a0_now, .ref a0_kept, .int 1, .ref a0_ways, .ref a0_shelves, .ref a0_tape, .ref a0_reader, .ref a0_refusals, .ref a0_bestPack]))] H := hP
  have hD : va_D A [(a0, .inr (6, [.ref a0_now, .ref a0_kept, .int 1, .ref a0_ways, .ref a0_shelves, .ref a0_tape, .ref a0_reader, .ref a0_refusals, .ref a0_bestPack]))] := hD
  refine lv_iconst (v := 1) hx hb dX6_image_16 (by decide) ?_
  refine W.widen (k := 0) (n := 0) (Nat.le_of_ble_eq_true rfl) (Nat.le_of_ble_eq_true rfl) ?_
  exact W.iret (v := 1) hx hb hr (fun t ht hW => ⟨⟨1, (), rfl, rfl, ⟨by rw [ht]; exact hP.sub [] rfl, hD.sub [] (by decide) rfl⟩⟩, hS.F ht⟩) hS.2.2 dX6_image_17
set_option maxHeartbeats 4000000 in
set_option maxRecDepth 100000 in
theorem c_X4_append (l : Launch) (D : va_G) (E : Nat → ClassId) (G : Nat → Nat) (sz : Nat) (a0 : Nat) (v_v : Int32) (v_n : Int32) (a0_bytes : Nat) (hn : v_n = 1 ∨ v_n = 2 ∨ v_n = 3 ∨ v_n = 4) : Met l yX4_append (oh_w yX4_append cX4_append 4 none) ({ frames := 0, cells := 0, slots := 0, locals := 0 }) (oh_Pm D E G [.ref a0, .int v_v, .int v_n] [(a0, .inr (4, [.ref a0_bytes, .int 0, .int (-1), .int 0, .int 0, .int 0])), (a0_bytes, .inl (E 0, 250, .inl (fun _ => 0)))] sz) (va_Qv (fun (_ : (Nat → Int32)) => True) (oh_B D (va_A [(a0, .inr (4, [.ref a0_bytes, .int 0, .int (-1), .int 0, .int 0, .int 0])), (a0_bytes, .inl (E 0, 250, .inl (fun _ => 0)))] sz) (fun hv_a0_bytes => [(a0, .inr (4, [.ref a0_bytes, .int v_n, .int (-1), .int 0, .int 0, .int 0])), (a0_bytes, .inl (E 0, 250, .inl hv_a0_bytes))])) (va_A [(a0, .inr (4, [.ref a0_bytes, .int 0, .int (-1), .int 0, .int 0, .int 0])), (a0_bytes, .inl (E 0, 250, .inl (fun _ => 0)))] sz)) 0 0 (va_A [(a0, .inr (4, [.ref a0_bytes, .int 0, .int (-1), .int 0, .int 0, .int 0])), (a0_bytes, .inl (E 0, 250, .inl (fun _ => 0)))] sz) := by
  refine Met.ofW (cc := cX4_append) (maxL := 4) (ret := none) (by decide) rfl ?_
  intro p e s m args below meth c s₁ B hml hv
  obtain ⟨rfl, hsz, hP, hK, hD0, hG⟩ := hv
  have hx := B.exec
  have hb := B.bytes
  have hr := B.returns
  have hts := atoms_spec (ws := (oh_w yX4_append cX4_append 4 none)) B.pre
  have htg : ∀ w ∈ oh_t, w.before _ s = true := fun w h => hts w (List.mem_cons_of_mem _ h)
  have hown : s.vm.findClass RX4 = some m.cls := findClass_of_methodNamed B.named
  have hlocks := B.notSynchronized
  subst hsz
  have hD := hD0.self (sz := s.heap.size)
  generalize hAe : va_A [(a0, .inr (4, [.ref a0_bytes, .int 0, .int (-1), .int 0, .int 0, .int 0])), (a0_bytes, .inl (E 0, 250, .inl (fun _ => 0)))] s.heap.size = A at hD hG ⊢
  have hA : ∀ q : Nat, s.heap.size ≤ q → A q := fun q h => by rw [← hAe]; exact Or.inr h
  have hS : va_S A s.heap s.heap [] := va_S.rf
  have hP : va_P D vwCl [(a0, .inr (4, [.ref a0_bytes, .int 0, .int (-1), .int 0, .int 0, .int 0])), (a0_bytes, .inl (E 0, 250, .inl (fun _ => 0)))] s.heap := hP
  have hl := lv_entry ([.ref a0, .int v_v, .int v_n]) (n := 4) (Nat.le_of_ble_eq_true rfl)
  rw [lg_entry_eq]
  generalize (lg_sl ([.ref a0, .int v_v, .int v_n]) ++ List.replicate (4 - (lg_sl ([.ref a0, .int v_v, .int v_n])).length) Slot.unset).toArray = ls at hl ⊢
  have hl : lv_has ls 4 [(0, .ref a0), (1, .int v_v), (2, .int v_n)] := hl
  rcases hn with rfl | rfl | rfl | rfl
  · refine lv_iload_n hx hb dX4_append_0 rfl (lv_at hl 2 rfl) ?_
    refine lv_iconst (v := 1) hx hb dX4_append_1 (by decide) ?_
    refine lv_isub hx hb dX4_append_2 ?_
    refine oh_nrm (v := 0) (by decide) ?_
    refine lv_istore_n (lv' := [(3, .int 0), (0, .ref a0), (1, .int v_v), (2, .int 1)]) hx hb dX4_append_3 rfl hl (by decide) rfl (fun ls hl => ?_)
    refine lv_iload_n hx hb dX4_append_4 rfl (lv_at hl 0 rfl) ?_
    refine lv_if_lt (tgt := 43) hx hb dX4_append_5 (by decide) (fun c => absurd c (show ¬ ((0 : Int32) < 0) from by decide)) (fun _ => ?_)
    refine lv_aload_n hx hb dX4_append_8 rfl (lv_at hl 1 rfl) ?_
    refine va_get (D := D) (ci := 4) (v := .ref a0_bytes) (C := RX4) (T := TX4) (N := 6) hx hb htg ig_4 hown hK hP 0 rfl rfl 0 (by decide) (htg _ q_217) (fun _ h9 => h9) rfl dX4_append_9 ?_
    refine lv_aload_n hx hb dX4_append_12 rfl (lv_at hl 1 rfl) ?_
    refine va_get (D := D) (ci := 4) (v := .int 0) (C := RX4) (T := TX4) (N := 6) hx hb htg ig_4 hown hK hP 0 rfl rfl 1 (by decide) (htg _ q_218) (fun _ h9 => h9) rfl dX4_append_13 ?_
    refine lv_iload_n hx hb dX4_append_16 rfl (lv_at hl 2 rfl) ?_
    refine lv_bipush (v := 8) hx hb dX4_append_17 (by decide) ?_
    refine lv_iload_n hx hb dX4_append_19 rfl (lv_at hl 0 rfl) ?_
    refine lv_imul hx hb dX4_append_20 ?_
    refine oh_nrm (v := 0) (by decide) ?_
    refine lv_ishr hx hb dX4_append_21 ?_
    refine lv_sipush (v := 255) hx hb dX4_append_22 (by decide) ?_
    refine lv_iand hx hb dX4_append_25 ?_
    refine va_iast hx hb hK hP hD hS 1 0 rfl rfl (show vp_in 0 250 by unfold vp_in; decide) dX4_append_26 (fun H locs hP hD hS => ?_)
    have hP : va_P D vwCl [(a0, .inr (4, [.ref a0_bytes, .int 0, .int (-1), .int 0, .int 0, .int 0])), (a0_bytes, .inl (E 0, 250, .inl (upd (fun _ => 0) 0 ((v_v >>> ((0 : Int32) &&& 31)) &&& 255))))] H := hP
    have hD : va_D A [(a0, .inr (4, [.ref a0_bytes, .int 0, .int (-1), .int 0, .int 0, .int 0])), (a0_bytes, .inl (E 0, 250, .inl (upd (fun _ => 0) 0 ((v_v >>> ((0 : Int32) &&& 31)) &&& 255))))] := hD
    refine lv_aload_n hx hb dX4_append_27 rfl (lv_at hl 1 rfl) ?_
    refine lv_dup hx hb dX4_append_28 rfl ?_
    refine va_get (D := D) (ci := 4) (v := .int 0) (C := RX4) (T := TX4) (N := 6) hx hb htg ig_4 hown hK hP 0 rfl rfl 1 (by decide) (htg _ q_218) (fun _ h9 => h9) rfl dX4_append_29 ?_
    refine lv_iconst (v := 1) hx hb dX4_append_32 (by decide) ?_
    refine lv_iadd hx hb dX4_append_33 ?_
    refine oh_nrm (v := 1) (by decide) ?_
    refine va_put (D := D) (ci := 4) (v := .int 1) (ty := .int) (C := RX4) (T := TX4) (N := 6) hx hb htg ig_4 tyX4 tyX4_ok nmX4 hown hK hP hD hS 0 rfl rfl 1 (by decide) (htg _ q_218) (fun _ h9 => h9) rfl (by decide +kernel) rfl rfl (Nat.le_of_ble_eq_true rfl) dX4_append_34 (fun H locs hP hD hS => ?_)
    have hP : va_P D vwCl [(a0, .inr (4, [.ref a0_bytes, .int 1, .int (-1), .int 0, .int 0, .int 0])), (a0_bytes, .inl (E 0, 250, .inl (upd (fun _ => 0) 0 ((v_v >>> ((0 : Int32) &&& 31)) &&& 255))))] H := hP
    have hD : va_D A [(a0, .inr (4, [.ref a0_bytes, .int 1, .int (-1), .int 0, .int 0, .int 0])), (a0_bytes, .inl (E 0, 250, .inl (upd (fun _ => 0) 0 ((v_v >>> ((0 : Int32) &&& 31)) &&& 255))))] := hD
    refine lv_iinc (v := (-1)) (lv' := [(3, .int (-1)), (0, .ref a0), (1, .int v_v), (2, .int 1)]) hx hb dX4_append_37 hl (k := 0) rfl (by decide) (by decide) rfl (fun ls hl => ?_)
    refine lv_goto (tgt := 4) hx hb dX4_append_40 (by decide) ?_
    refine lv_iload_n hx hb dX4_append_4 rfl (lv_at hl 0 rfl) ?_
    refine lv_if_lt (tgt := 43) hx hb dX4_append_5 (by decide) (fun _ => ?_) (fun c => absurd (show (-1 : Int32) < 0 from by decide) c)
    refine W.widen (k := 0) (n := 0) (Nat.le_of_ble_eq_true rfl) (Nat.le_of_ble_eq_true rfl) ?_
    exact W.vret hx hb hr (fun t ht hW => ⟨⟨(upd (fun _ => 0) 0 ((v_v >>> ((0 : Int32) &&& 31)) &&& 255)), rfl, trivial, ⟨by rw [ht]; exact hP.sub [0, 1] rfl, hD.sub [0, 1] (by decide) rfl⟩⟩, hS.F ht⟩) hS.2.2 dX4_append_43
  · refine lv_iload_n hx hb dX4_append_0 rfl (lv_at hl 2 rfl) ?_
    refine lv_iconst (v := 1) hx hb dX4_append_1 (by decide) ?_
    refine lv_isub hx hb dX4_append_2 ?_
    refine oh_nrm (v := 1) (by decide) ?_
    refine lv_istore_n (lv' := [(3, .int 1), (0, .ref a0), (1, .int v_v), (2, .int 2)]) hx hb dX4_append_3 rfl hl (by decide) rfl (fun ls hl => ?_)
    refine lv_iload_n hx hb dX4_append_4 rfl (lv_at hl 0 rfl) ?_
    refine lv_if_lt (tgt := 43) hx hb dX4_append_5 (by decide) (fun c => absurd c (show ¬ ((1 : Int32) < 0) from by decide)) (fun _ => ?_)
    refine lv_aload_n hx hb dX4_append_8 rfl (lv_at hl 1 rfl) ?_
    refine va_get (D := D) (ci := 4) (v := .ref a0_bytes) (C := RX4) (T := TX4) (N := 6) hx hb htg ig_4 hown hK hP 0 rfl rfl 0 (by decide) (htg _ q_217) (fun _ h9 => h9) rfl dX4_append_9 ?_
    refine lv_aload_n hx hb dX4_append_12 rfl (lv_at hl 1 rfl) ?_
    refine va_get (D := D) (ci := 4) (v := .int 0) (C := RX4) (T := TX4) (N := 6) hx hb htg ig_4 hown hK hP 0 rfl rfl 1 (by decide) (htg _ q_218) (fun _ h9 => h9) rfl dX4_append_13 ?_
    refine lv_iload_n hx hb dX4_append_16 rfl (lv_at hl 2 rfl) ?_
    refine lv_bipush (v := 8) hx hb dX4_append_17 (by decide) ?_
    refine lv_iload_n hx hb dX4_append_19 rfl (lv_at hl 0 rfl) ?_
    refine lv_imul hx hb dX4_append_20 ?_
    refine oh_nrm (v := 8) (by decide) ?_
    refine lv_ishr hx hb dX4_append_21 ?_
    refine lv_sipush (v := 255) hx hb dX4_append_22 (by decide) ?_
    refine lv_iand hx hb dX4_append_25 ?_
    refine va_iast hx hb hK hP hD hS 1 0 rfl rfl (show vp_in 0 250 by unfold vp_in; decide) dX4_append_26 (fun H locs hP hD hS => ?_)
    have hP : va_P D vwCl [(a0, .inr (4, [.ref a0_bytes, .int 0, .int (-1), .int 0, .int 0, .int 0])), (a0_bytes, .inl (E 0, 250, .inl (upd (fun _ => 0) 0 ((v_v >>> ((8 : Int32) &&& 31)) &&& 255))))] H := hP
    have hD : va_D A [(a0, .inr (4, [.ref a0_bytes, .int 0, .int (-1), .int 0, .int 0, .int 0])), (a0_bytes, .inl (E 0, 250, .inl (upd (fun _ => 0) 0 ((v_v >>> ((8 : Int32) &&& 31)) &&& 255))))] := hD
    refine lv_aload_n hx hb dX4_append_27 rfl (lv_at hl 1 rfl) ?_
    refine lv_dup hx hb dX4_append_28 rfl ?_
    refine va_get (D := D) (ci := 4) (v := .int 0) (C := RX4) (T := TX4) (N := 6) hx hb htg ig_4 hown hK hP 0 rfl rfl 1 (by decide) (htg _ q_218) (fun _ h9 => h9) rfl dX4_append_29 ?_
    refine lv_iconst (v := 1) hx hb dX4_append_32 (by decide) ?_
    refine lv_iadd hx hb dX4_append_33 ?_
    refine oh_nrm (v := 1) (by decide) ?_
    refine va_put (D := D) (ci := 4) (v := .int 1) (ty := .int) (C := RX4) (T := TX4) (N := 6) hx hb htg ig_4 tyX4 tyX4_ok nmX4 hown hK hP hD hS 0 rfl rfl 1 (by decide) (htg _ q_218) (fun _ h9 => h9) rfl (by decide +kernel) rfl rfl (Nat.le_of_ble_eq_true rfl) dX4_append_34 (fun H locs hP hD hS => ?_)
    have hP : va_P D vwCl [(a0, .inr (4, [.ref a0_bytes, .int 1, .int (-1), .int 0, .int 0, .int 0])), (a0_bytes, .inl (E 0, 250, .inl (upd (fun _ => 0) 0 ((v_v >>> ((8 : Int32) &&& 31)) &&& 255))))] H := hP
    have hD : va_D A [(a0, .inr (4, [.ref a0_bytes, .int 1, .int (-1), .int 0, .int 0, .int 0])), (a0_bytes, .inl (E 0, 250, .inl (upd (fun _ => 0) 0 ((v_v >>> ((8 : Int32) &&& 31)) &&& 255))))] := hD
    refine lv_iinc (v := 0) (lv' := [(3, .int 0), (0, .ref a0), (1, .int v_v), (2, .int 2)]) hx hb dX4_append_37 hl (k := 0) rfl (by decide) (by decide) rfl (fun ls hl => ?_)
    refine lv_goto (tgt := 4) hx hb dX4_append_40 (by decide) ?_
    refine lv_iload_n hx hb dX4_append_4 rfl (lv_at hl 0 rfl) ?_
    refine lv_if_lt (tgt := 43) hx hb dX4_append_5 (by decide) (fun c => absurd c (show ¬ ((0 : Int32) < 0) from by decide)) (fun _ => ?_)
    refine lv_aload_n hx hb dX4_append_8 rfl (lv_at hl 1 rfl) ?_
    refine va_get (D := D) (ci := 4) (v := .ref a0_bytes) (C := RX4) (T := TX4) (N := 6) hx hb htg ig_4 hown hK hP 0 rfl rfl 0 (by decide) (htg _ q_217) (fun _ h9 => h9) rfl dX4_append_9 ?_
    refine lv_aload_n hx hb dX4_append_12 rfl (lv_at hl 1 rfl) ?_
    refine va_get (D := D) (ci := 4) (v := .int 1) (C := RX4) (T := TX4) (N := 6) hx hb htg ig_4 hown hK hP 0 rfl rfl 1 (by decide) (htg _ q_218) (fun _ h9 => h9) rfl dX4_append_13 ?_
    refine lv_iload_n hx hb dX4_append_16 rfl (lv_at hl 2 rfl) ?_
    refine lv_bipush (v := 8) hx hb dX4_append_17 (by decide) ?_
    refine lv_iload_n hx hb dX4_append_19 rfl (lv_at hl 0 rfl) ?_
    refine lv_imul hx hb dX4_append_20 ?_
    refine oh_nrm (v := 0) (by decide) ?_
    refine lv_ishr hx hb dX4_append_21 ?_
    refine lv_sipush (v := 255) hx hb dX4_append_22 (by decide) ?_
    refine lv_iand hx hb dX4_append_25 ?_
    refine va_iast hx hb hK hP hD hS 1 0 rfl rfl (show vp_in 1 250 by unfold vp_in; decide) dX4_append_26 (fun H locs hP hD hS => ?_)
    have hP : va_P D vwCl [(a0, .inr (4, [.ref a0_bytes, .int 1, .int (-1), .int 0, .int 0, .int 0])), (a0_bytes, .inl (E 0, 250, .inl (upd (upd (fun _ => 0) 0 ((v_v >>> ((8 : Int32) &&& 31)) &&& 255)) 1 ((v_v >>> ((0 : Int32) &&& 31)) &&& 255))))] H := hP
    have hD : va_D A [(a0, .inr (4, [.ref a0_bytes, .int 1, .int (-1), .int 0, .int 0, .int 0])), (a0_bytes, .inl (E 0, 250, .inl (upd (upd (fun _ => 0) 0 ((v_v >>> ((8 : Int32) &&& 31)) &&& 255)) 1 ((v_v >>> ((0 : Int32) &&& 31)) &&& 255))))] := hD
    refine lv_aload_n hx hb dX4_append_27 rfl (lv_at hl 1 rfl) ?_
    refine lv_dup hx hb dX4_append_28 rfl ?_
    refine va_get (D := D) (ci := 4) (v := .int 1) (C := RX4) (T := TX4) (N := 6) hx hb htg ig_4 hown hK hP 0 rfl rfl 1 (by decide) (htg _ q_218) (fun _ h9 => h9) rfl dX4_append_29 ?_
    refine lv_iconst (v := 1) hx hb dX4_append_32 (by decide) ?_
    refine lv_iadd hx hb dX4_append_33 ?_
    refine oh_nrm (v := 2) (by decide) ?_
    refine va_put (D := D) (ci := 4) (v := .int 2) (ty := .int) (C := RX4) (T := TX4) (N := 6) hx hb htg ig_4 tyX4 tyX4_ok nmX4 hown hK hP hD hS 0 rfl rfl 1 (by decide) (htg _ q_218) (fun _ h9 => h9) rfl (by decide +kernel) rfl rfl (Nat.le_of_ble_eq_true rfl) dX4_append_34 (fun H locs hP hD hS => ?_)
    have hP : va_P D vwCl [(a0, .inr (4, [.ref a0_bytes, .int 2, .int (-1), .int 0, .int 0, .int 0])), (a0_bytes, .inl (E 0, 250, .inl (upd (upd (fun _ => 0) 0 ((v_v >>> ((8 : Int32) &&& 31)) &&& 255)) 1 ((v_v >>> ((0 : Int32) &&& 31)) &&& 255))))] H := hP
    have hD : va_D A [(a0, .inr (4, [.ref a0_bytes, .int 2, .int (-1), .int 0, .int 0, .int 0])), (a0_bytes, .inl (E 0, 250, .inl (upd (upd (fun _ => 0) 0 ((v_v >>> ((8 : Int32) &&& 31)) &&& 255)) 1 ((v_v >>> ((0 : Int32) &&& 31)) &&& 255))))] := hD
    refine lv_iinc (v := (-1)) (lv' := [(3, .int (-1)), (0, .ref a0), (1, .int v_v), (2, .int 2)]) hx hb dX4_append_37 hl (k := 0) rfl (by decide) (by decide) rfl (fun ls hl => ?_)
    refine lv_goto (tgt := 4) hx hb dX4_append_40 (by decide) ?_
    refine lv_iload_n hx hb dX4_append_4 rfl (lv_at hl 0 rfl) ?_
    refine lv_if_lt (tgt := 43) hx hb dX4_append_5 (by decide) (fun _ => ?_) (fun c => absurd (show (-1 : Int32) < 0 from by decide) c)
    refine W.widen (k := 0) (n := 0) (Nat.le_of_ble_eq_true rfl) (Nat.le_of_ble_eq_true rfl) ?_
    exact W.vret hx hb hr (fun t ht hW => ⟨⟨(upd (upd (fun _ => 0) 0 ((v_v >>> ((8 : Int32) &&& 31)) &&& 255)) 1 ((v_v >>> ((0 : Int32) &&& 31)) &&& 255)), rfl, trivial, ⟨by rw [ht]; exact hP.sub [0, 1] rfl, hD.sub [0, 1] (by decide) rfl⟩⟩, hS.F ht⟩) hS.2.2 dX4_append_43
  · refine lv_iload_n hx hb dX4_append_0 rfl (lv_at hl 2 rfl) ?_
    refine lv_iconst (v := 1) hx hb dX4_append_1 (by decide) ?_
    refine lv_isub hx hb dX4_append_2 ?_
    refine oh_nrm (v := 2) (by decide) ?_
    refine lv_istore_n (lv' := [(3, .int 2), (0, .ref a0), (1, .int v_v), (2, .int 3)]) hx hb dX4_append_3 rfl hl (by decide) rfl (fun ls hl => ?_)
    refine lv_iload_n hx hb dX4_append_4 rfl (lv_at hl 0 rfl) ?_
    refine lv_if_lt (tgt := 43) hx hb dX4_append_5 (by decide) (fun c => absurd c (show ¬ ((2 : Int32) < 0) from by decide)) (fun _ => ?_)
    refine lv_aload_n hx hb dX4_append_8 rfl (lv_at hl 1 rfl) ?_
    refine va_get (D := D) (ci := 4) (v := .ref a0_bytes) (C := RX4) (T := TX4) (N := 6) hx hb htg ig_4 hown hK hP 0 rfl rfl 0 (by decide) (htg _ q_217) (fun _ h9 => h9) rfl dX4_append_9 ?_
    refine lv_aload_n hx hb dX4_append_12 rfl (lv_at hl 1 rfl) ?_
    refine va_get (D := D) (ci := 4) (v := .int 0) (C := RX4) (T := TX4) (N := 6) hx hb htg ig_4 hown hK hP 0 rfl rfl 1 (by decide) (htg _ q_218) (fun _ h9 => h9) rfl dX4_append_13 ?_
    refine lv_iload_n hx hb dX4_append_16 rfl (lv_at hl 2 rfl) ?_
    refine lv_bipush (v := 8) hx hb dX4_append_17 (by decide) ?_
    refine lv_iload_n hx hb dX4_append_19 rfl (lv_at hl 0 rfl) ?_
    refine lv_imul hx hb dX4_append_20 ?_
    refine oh_nrm (v := 16) (by decide) ?_
    refine lv_ishr hx hb dX4_append_21 ?_
    refine lv_sipush (v := 255) hx hb dX4_append_22 (by decide) ?_
    refine lv_iand hx hb dX4_append_25 ?_
    refine va_iast hx hb hK hP hD hS 1 0 rfl rfl (show vp_in 0 250 by unfold vp_in; decide) dX4_append_26 (fun H locs hP hD hS => ?_)
    have hP : va_P D vwCl [(a0, .inr (4, [.ref a0_bytes, .int 0, .int (-1), .int 0, .int 0, .int 0])), (a0_bytes, .inl (E 0, 250, .inl (upd (fun _ => 0) 0 ((v_v >>> ((16 : Int32) &&& 31)) &&& 255))))] H := hP
    have hD : va_D A [(a0, .inr (4, [.ref a0_bytes, .int 0, .int (-1), .int 0, .int 0, .int 0])), (a0_bytes, .inl (E 0, 250, .inl (upd (fun _ => 0) 0 ((v_v >>> ((16 : Int32) &&& 31)) &&& 255))))] := hD
    refine lv_aload_n hx hb dX4_append_27 rfl (lv_at hl 1 rfl) ?_
    refine lv_dup hx hb dX4_append_28 rfl ?_
    refine va_get (D := D) (ci := 4) (v := .int 0) (C := RX4) (T := TX4) (N := 6) hx hb htg ig_4 hown hK hP 0 rfl rfl 1 (by decide) (htg _ q_218) (fun _ h9 => h9) rfl dX4_append_29 ?_
    refine lv_iconst (v := 1) hx hb dX4_append_32 (by decide) ?_
    refine lv_iadd hx hb dX4_append_33 ?_
    refine oh_nrm (v := 1) (by decide) ?_
    refine va_put (D := D) (ci := 4) (v := .int 1) (ty := .int) (C := RX4) (T := TX4) (N := 6) hx hb htg ig_4 tyX4 tyX4_ok nmX4 hown hK hP hD hS 0 rfl rfl 1 (by decide) (htg _ q_218) (fun _ h9 => h9) rfl (by decide +kernel) rfl rfl (Nat.le_of_ble_eq_true rfl) dX4_append_34 (fun H locs hP hD hS => ?_)
    have hP : va_P D vwCl [(a0, .inr (4, [.ref a0_bytes, .int 1, .int (-1), .int 0, .int 0, .int 0])), (a0_bytes, .inl (E 0, 250, .inl (upd (fun _ => 0) 0 ((v_v >>> ((16 : Int32) &&& 31)) &&& 255))))] H := hP
    have hD : va_D A [(a0, .inr (4, [.ref a0_bytes, .int 1, .int (-1), .int 0, .int 0, .int 0])), (a0_bytes, .inl (E 0, 250, .inl (upd (fun _ => 0) 0 ((v_v >>> ((16 : Int32) &&& 31)) &&& 255))))] := hD
    refine lv_iinc (v := 1) (lv' := [(3, .int 1), (0, .ref a0), (1, .int v_v), (2, .int 3)]) hx hb dX4_append_37 hl (k := 0) rfl (by decide) (by decide) rfl (fun ls hl => ?_)
    refine lv_goto (tgt := 4) hx hb dX4_append_40 (by decide) ?_
    refine lv_iload_n hx hb dX4_append_4 rfl (lv_at hl 0 rfl) ?_
    refine lv_if_lt (tgt := 43) hx hb dX4_append_5 (by decide) (fun c => absurd c (show ¬ ((1 : Int32) < 0) from by decide)) (fun _ => ?_)
    refine lv_aload_n hx hb dX4_append_8 rfl (lv_at hl 1 rfl) ?_
    refine va_get (D := D) (ci := 4) (v := .ref a0_bytes) (C := RX4) (T := TX4) (N := 6) hx hb htg ig_4 hown hK hP 0 rfl rfl 0 (by decide) (htg _ q_217) (fun _ h9 => h9) rfl dX4_append_9 ?_
    refine lv_aload_n hx hb dX4_append_12 rfl (lv_at hl 1 rfl) ?_
    refine va_get (D := D) (ci := 4) (v := .int 1) (C := RX4) (T := TX4) (N := 6) hx hb htg ig_4 hown hK hP 0 rfl rfl 1 (by decide) (htg _ q_218) (fun _ h9 => h9) rfl dX4_append_13 ?_
    refine lv_iload_n hx hb dX4_append_16 rfl (lv_at hl 2 rfl) ?_
    refine lv_bipush (v := 8) hx hb dX4_append_17 (by decide) ?_
    refine lv_iload_n hx hb dX4_append_19 rfl (lv_at hl 0 rfl) ?_
    refine lv_imul hx hb dX4_append_20 ?_
    refine oh_nrm (v := 8) (by decide) ?_
    refine lv_ishr hx hb dX4_append_21 ?_
    refine lv_sipush (v := 255) hx hb dX4_append_22 (by decide) ?_
    refine lv_iand hx hb dX4_append_25 ?_
    refine va_iast hx hb hK hP hD hS 1 0 rfl rfl (show vp_in 1 250 by unfold vp_in; decide) dX4_append_26 (fun H locs hP hD hS => ?_)
    have hP : va_P D vwCl [(a0, .inr (4, [.ref a0_bytes, .int 1, .int (-1), .int 0, .int 0, .int 0])), (a0_bytes, .inl (E 0, 250, .inl (upd (upd (fun _ => 0) 0 ((v_v >>> ((16 : Int32) &&& 31)) &&& 255)) 1 ((v_v >>> ((8 : Int32) &&& 31)) &&& 255))))] H := hP
    have hD : va_D A [(a0, .inr (4, [.ref a0_bytes, .int 1, .int (-1), .int 0, .int 0, .int 0])), (a0_bytes, .inl (E 0, 250, .inl (upd (upd (fun _ => 0) 0 ((v_v >>> ((16 : Int32) &&& 31)) &&& 255)) 1 ((v_v >>> ((8 : Int32) &&& 31)) &&& 255))))] := hD
    refine lv_aload_n hx hb dX4_append_27 rfl (lv_at hl 1 rfl) ?_
    refine lv_dup hx hb dX4_append_28 rfl ?_
    refine va_get (D := D) (ci := 4) (v := .int 1) (C := RX4) (T := TX4) (N := 6) hx hb htg ig_4 hown hK hP 0 rfl rfl 1 (by decide) (htg _ q_218) (fun _ h9 => h9) rfl dX4_append_29 ?_
    refine lv_iconst (v := 1) hx hb dX4_append_32 (by decide) ?_
    refine lv_iadd hx hb dX4_append_33 ?_
    refine oh_nrm (v := 2) (by decide) ?_
    refine va_put (D := D) (ci := 4) (v := .int 2) (ty := .int) (C := RX4) (T := TX4) (N := 6) hx hb htg ig_4 tyX4 tyX4_ok nmX4 hown hK hP hD hS 0 rfl rfl 1 (by decide) (htg _ q_218) (fun _ h9 => h9) rfl (by decide +kernel) rfl rfl (Nat.le_of_ble_eq_true rfl) dX4_append_34 (fun H locs hP hD hS => ?_)
    have hP : va_P D vwCl [(a0, .inr (4, [.ref a0_bytes, .int 2, .int (-1), .int 0, .int 0, .int 0])), (a0_bytes, .inl (E 0, 250, .inl (upd (upd (fun _ => 0) 0 ((v_v >>> ((16 : Int32) &&& 31)) &&& 255)) 1 ((v_v >>> ((8 : Int32) &&& 31)) &&& 255))))] H := hP
    have hD : va_D A [(a0, .inr (4, [.ref a0_bytes, .int 2, .int (-1), .int 0, .int 0, .int 0])), (a0_bytes, .inl (E 0, 250, .inl (upd (upd (fun _ => 0) 0 ((v_v >>> ((16 : Int32) &&& 31)) &&& 255)) 1 ((v_v >>> ((8 : Int32) &&& 31)) &&& 255))))] := hD
    refine lv_iinc (v := 0) (lv' := [(3, .int 0), (0, .ref a0), (1, .int v_v), (2, .int 3)]) hx hb dX4_append_37 hl (k := 0) rfl (by decide) (by decide) rfl (fun ls hl => ?_)
    refine lv_goto (tgt := 4) hx hb dX4_append_40 (by decide) ?_
    refine lv_iload_n hx hb dX4_append_4 rfl (lv_at hl 0 rfl) ?_
    refine lv_if_lt (tgt := 43) hx hb dX4_append_5 (by decide) (fun c => absurd c (show ¬ ((0 : Int32) < 0) from by decide)) (fun _ => ?_)
    refine lv_aload_n hx hb dX4_append_8 rfl (lv_at hl 1 rfl) ?_
    refine va_get (D := D) (ci := 4) (v := .ref a0_bytes) (C := RX4) (T := TX4) (N := 6) hx hb htg ig_4 hown hK hP 0 rfl rfl 0 (by decide) (htg _ q_217) (fun _ h9 => h9) rfl dX4_append_9 ?_
    refine lv_aload_n hx hb dX4_append_12 rfl (lv_at hl 1 rfl) ?_
    refine va_get (D := D) (ci := 4) (v := .int 2) (C := RX4) (T := TX4) (N := 6) hx hb htg ig_4 hown hK hP 0 rfl rfl 1 (by decide) (htg _ q_218) (fun _ h9 => h9) rfl dX4_append_13 ?_
    refine lv_iload_n hx hb dX4_append_16 rfl (lv_at hl 2 rfl) ?_
    refine lv_bipush (v := 8) hx hb dX4_append_17 (by decide) ?_
    refine lv_iload_n hx hb dX4_append_19 rfl (lv_at hl 0 rfl) ?_
    refine lv_imul hx hb dX4_append_20 ?_
    refine oh_nrm (v := 0) (by decide) ?_
    refine lv_ishr hx hb dX4_append_21 ?_
    refine lv_sipush (v := 255) hx hb dX4_append_22 (by decide) ?_
    refine lv_iand hx hb dX4_append_25 ?_
    refine va_iast hx hb hK hP hD hS 1 0 rfl rfl (show vp_in 2 250 by unfold vp_in; decide) dX4_append_26 (fun H locs hP hD hS => ?_)
    have hP : va_P D vwCl [(a0, .inr (4, [.ref a0_bytes, .int 2, .int (-1), .int 0, .int 0, .int 0])), (a0_bytes, .inl (E 0, 250, .inl (upd (upd (upd (fun _ => 0) 0 ((v_v >>> ((16 : Int32) &&& 31)) &&& 255)) 1 ((v_v >>> ((8 : Int32) &&& 31)) &&& 255)) 2 ((v_v >>> ((0 : Int32) &&& 31)) &&& 255))))] H := hP
    have hD : va_D A [(a0, .inr (4, [.ref a0_bytes, .int 2, .int (-1), .int 0, .int 0, .int 0])), (a0_bytes, .inl (E 0, 250, .inl (upd (upd (upd (fun _ => 0) 0 ((v_v >>> ((16 : Int32) &&& 31)) &&& 255)) 1 ((v_v >>> ((8 : Int32) &&& 31)) &&& 255)) 2 ((v_v >>> ((0 : Int32) &&& 31)) &&& 255))))] := hD
    refine lv_aload_n hx hb dX4_append_27 rfl (lv_at hl 1 rfl) ?_
    refine lv_dup hx hb dX4_append_28 rfl ?_
    refine va_get (D := D) (ci := 4) (v := .int 2) (C := RX4) (T := TX4) (N := 6) hx hb htg ig_4 hown hK hP 0 rfl rfl 1 (by decide) (htg _ q_218) (fun _ h9 => h9) rfl dX4_append_29 ?_
    refine lv_iconst (v := 1) hx hb dX4_append_32 (by decide) ?_
    refine lv_iadd hx hb dX4_append_33 ?_
    refine oh_nrm (v := 3) (by decide) ?_
    refine va_put (D := D) (ci := 4) (v := .int 3) (ty := .int) (C := RX4) (T := TX4) (N := 6) hx hb htg ig_4 tyX4 tyX4_ok nmX4 hown hK hP hD hS 0 rfl rfl 1 (by decide) (htg _ q_218) (fun _ h9 => h9) rfl (by decide +kernel) rfl rfl (Nat.le_of_ble_eq_true rfl) dX4_append_34 (fun H locs hP hD hS => ?_)
    have hP : va_P D vwCl [(a0, .inr (4, [.ref a0_bytes, .int 3, .int (-1), .int 0, .int 0, .int 0])), (a0_bytes, .inl (E 0, 250, .inl (upd (upd (upd (fun _ => 0) 0 ((v_v >>> ((16 : Int32) &&& 31)) &&& 255)) 1 ((v_v >>> ((8 : Int32) &&& 31)) &&& 255)) 2 ((v_v >>> ((0 : Int32) &&& 31)) &&& 255))))] H := hP
    have hD : va_D A [(a0, .inr (4, [.ref a0_bytes, .int 3, .int (-1), .int 0, .int 0, .int 0])), (a0_bytes, .inl (E 0, 250, .inl (upd (upd (upd (fun _ => 0) 0 ((v_v >>> ((16 : Int32) &&& 31)) &&& 255)) 1 ((v_v >>> ((8 : Int32) &&& 31)) &&& 255)) 2 ((v_v >>> ((0 : Int32) &&& 31)) &&& 255))))] := hD
    refine lv_iinc (v := (-1)) (lv' := [(3, .int (-1)), (0, .ref a0), (1, .int v_v), (2, .int 3)]) hx hb dX4_append_37 hl (k := 0) rfl (by decide) (by decide) rfl (fun ls hl => ?_)
    refine lv_goto (tgt := 4) hx hb dX4_append_40 (by decide) ?_
    refine lv_iload_n hx hb dX4_append_4 rfl (lv_at hl 0 rfl) ?_
    refine lv_if_lt (tgt := 43) hx hb dX4_append_5 (by decide) (fun _ => ?_) (fun c => absurd (show (-1 : Int32) < 0 from by decide) c)
    refine W.widen (k := 0) (n := 0) (Nat.le_of_ble_eq_true rfl) (Nat.le_of_ble_eq_true rfl) ?_
    exact W.vret hx hb hr (fun t ht hW => ⟨⟨(upd (upd (upd (fun _ => 0) 0 ((v_v >>> ((16 : Int32) &&& 31)) &&& 255)) 1 ((v_v >>> ((8 : Int32) &&& 31)) &&& 255)) 2 ((v_v >>> ((0 : Int32) &&& 31)) &&& 255)), rfl, trivial, ⟨by rw [ht]; exact hP.sub [0, 1] rfl, hD.sub [0, 1] (by decide) rfl⟩⟩, hS.F ht⟩) hS.2.2 dX4_append_43
  · refine lv_iload_n hx hb dX4_append_0 rfl (lv_at hl 2 rfl) ?_
    refine lv_iconst (v := 1) hx hb dX4_append_1 (by decide) ?_
    refine lv_isub hx hb dX4_append_2 ?_
    refine oh_nrm (v := 3) (by decide) ?_
    refine lv_istore_n (lv' := [(3, .int 3), (0, .ref a0), (1, .int v_v), (2, .int 4)]) hx hb dX4_append_3 rfl hl (by decide) rfl (fun ls hl => ?_)
    refine lv_iload_n hx hb dX4_append_4 rfl (lv_at hl 0 rfl) ?_
    refine lv_if_lt (tgt := 43) hx hb dX4_append_5 (by decide) (fun c => absurd c (show ¬ ((3 : Int32) < 0) from by decide)) (fun _ => ?_)
    refine lv_aload_n hx hb dX4_append_8 rfl (lv_at hl 1 rfl) ?_
    refine va_get (D := D) (ci := 4) (v := .ref a0_bytes) (C := RX4) (T := TX4) (N := 6) hx hb htg ig_4 hown hK hP 0 rfl rfl 0 (by decide) (htg _ q_217) (fun _ h9 => h9) rfl dX4_append_9 ?_
    refine lv_aload_n hx hb dX4_append_12 rfl (lv_at hl 1 rfl) ?_
    refine va_get (D := D) (ci := 4) (v := .int 0) (C := RX4) (T := TX4) (N := 6) hx hb htg ig_4 hown hK hP 0 rfl rfl 1 (by decide) (htg _ q_218) (fun _ h9 => h9) rfl dX4_append_13 ?_
    refine lv_iload_n hx hb dX4_append_16 rfl (lv_at hl 2 rfl) ?_
    refine lv_bipush (v := 8) hx hb dX4_append_17 (by decide) ?_
    refine lv_iload_n hx hb dX4_append_19 rfl (lv_at hl 0 rfl) ?_
    refine lv_imul hx hb dX4_append_20 ?_
    refine oh_nrm (v := 24) (by decide) ?_
    refine lv_ishr hx hb dX4_append_21 ?_
    refine lv_sipush (v := 255) hx hb dX4_append_22 (by decide) ?_
    refine lv_iand hx hb dX4_append_25 ?_
    refine va_iast hx hb hK hP hD hS 1 0 rfl rfl (show vp_in 0 250 by unfold vp_in; decide) dX4_append_26 (fun H locs hP hD hS => ?_)
    have hP : va_P D vwCl [(a0, .inr (4, [.ref a0_bytes, .int 0, .int (-1), .int 0, .int 0, .int 0])), (a0_bytes, .inl (E 0, 250, .inl (upd (fun _ => 0) 0 ((v_v >>> ((24 : Int32) &&& 31)) &&& 255))))] H := hP
    have hD : va_D A [(a0, .inr (4, [.ref a0_bytes, .int 0, .int (-1), .int 0, .int 0, .int 0])), (a0_bytes, .inl (E 0, 250, .inl (upd (fun _ => 0) 0 ((v_v >>> ((24 : Int32) &&& 31)) &&& 255))))] := hD
    refine lv_aload_n hx hb dX4_append_27 rfl (lv_at hl 1 rfl) ?_
    refine lv_dup hx hb dX4_append_28 rfl ?_
    refine va_get (D := D) (ci := 4) (v := .int 0) (C := RX4) (T := TX4) (N := 6) hx hb htg ig_4 hown hK hP 0 rfl rfl 1 (by decide) (htg _ q_218) (fun _ h9 => h9) rfl dX4_append_29 ?_
    refine lv_iconst (v := 1) hx hb dX4_append_32 (by decide) ?_
    refine lv_iadd hx hb dX4_append_33 ?_
    refine oh_nrm (v := 1) (by decide) ?_
    refine va_put (D := D) (ci := 4) (v := .int 1) (ty := .int) (C := RX4) (T := TX4) (N := 6) hx hb htg ig_4 tyX4 tyX4_ok nmX4 hown hK hP hD hS 0 rfl rfl 1 (by decide) (htg _ q_218) (fun _ h9 => h9) rfl (by decide +kernel) rfl rfl (Nat.le_of_ble_eq_true rfl) dX4_append_34 (fun H locs hP hD hS => ?_)
    have hP : va_P D vwCl [(a0, .inr (4, [.ref a0_bytes, .int 1, .int (-1), .int 0, .int 0, .int 0])), (a0_bytes, .inl (E 0, 250, .inl (upd (fun _ => 0) 0 ((v_v >>> ((24 : Int32) &&& 31)) &&& 255))))] H := hP
    have hD : va_D A [(a0, .inr (4, [.ref a0_bytes, .int 1, .int (-1), .int 0, .int 0, .int 0])), (a0_bytes, .inl (E 0, 250, .inl (upd (fun _ => 0) 0 ((v_v >>> ((24 : Int32) &&& 31)) &&& 255))))] := hD
    refine lv_iinc (v := 2) (lv' := [(3, .int 2), (0, .ref a0), (1, .int v_v), (2, .int 4)]) hx hb dX4_append_37 hl (k := 0) rfl (by decide) (by decide) rfl (fun ls hl => ?_)
    refine lv_goto (tgt := 4) hx hb dX4_append_40 (by decide) ?_
    refine lv_iload_n hx hb dX4_append_4 rfl (lv_at hl 0 rfl) ?_
    refine lv_if_lt (tgt := 43) hx hb dX4_append_5 (by decide) (fun c => absurd c (show ¬ ((2 : Int32) < 0) from by decide)) (fun _ => ?_)
    refine lv_aload_n hx hb dX4_append_8 rfl (lv_at hl 1 rfl) ?_
    refine va_get (D := D) (ci := 4) (v := .ref a0_bytes) (C := RX4) (T := TX4) (N := 6) hx hb htg ig_4 hown hK hP 0 rfl rfl 0 (by decide) (htg _ q_217) (fun _ h9 => h9) rfl dX4_append_9 ?_
    refine lv_aload_n hx hb dX4_append_12 rfl (lv_at hl 1 rfl) ?_
    refine va_get (D := D) (ci := 4) (v := .int 1) (C := RX4) (T := TX4) (N := 6) hx hb htg ig_4 hown hK hP 0 rfl rfl 1 (by decide) (htg _ q_218) (fun _ h9 => h9) rfl dX4_append_13 ?_
    refine lv_iload_n hx hb dX4_append_16 rfl (lv_at hl 2 rfl) ?_
    refine lv_bipush (v := 8) hx hb dX4_append_17 (by decide) ?_
    refine lv_iload_n hx hb dX4_append_19 rfl (lv_at hl 0 rfl) ?_
    refine lv_imul hx hb dX4_append_20 ?_
    refine oh_nrm (v := 16) (by decide) ?_
    refine lv_ishr hx hb dX4_append_21 ?_
    refine lv_sipush (v := 255) hx hb dX4_append_22 (by decide) ?_
    refine lv_iand hx hb dX4_append_25 ?_
    refine va_iast hx hb hK hP hD hS 1 0 rfl rfl (show vp_in 1 250 by unfold vp_in; decide) dX4_append_26 (fun H locs hP hD hS => ?_)
    have hP : va_P D vwCl [(a0, .inr (4, [.ref a0_bytes, .int 1, .int (-1), .int 0, .int 0, .int 0])), (a0_bytes, .inl (E 0, 250, .inl (upd (upd (fun _ => 0) 0 ((v_v >>> ((24 : Int32) &&& 31)) &&& 255)) 1 ((v_v >>> ((16 : Int32) &&& 31)) &&& 255))))] H := hP
    have hD : va_D A [(a0, .inr (4, [.ref a0_bytes, .int 1, .int (-1), .int 0, .int 0, .int 0])), (a0_bytes, .inl (E 0, 250, .inl (upd (upd (fun _ => 0) 0 ((v_v >>> ((24 : Int32) &&& 31)) &&& 255)) 1 ((v_v >>> ((16 : Int32) &&& 31)) &&& 255))))] := hD
    refine lv_aload_n hx hb dX4_append_27 rfl (lv_at hl 1 rfl) ?_
    refine lv_dup hx hb dX4_append_28 rfl ?_
    refine va_get (D := D) (ci := 4) (v := .int 1) (C := RX4) (T := TX4) (N := 6) hx hb htg ig_4 hown hK hP 0 rfl rfl 1 (by decide) (htg _ q_218) (fun _ h9 => h9) rfl dX4_append_29 ?_
    refine lv_iconst (v := 1) hx hb dX4_append_32 (by decide) ?_
    refine lv_iadd hx hb dX4_append_33 ?_
    refine oh_nrm (v := 2) (by decide) ?_
    refine va_put (D := D) (ci := 4) (v := .int 2) (ty := .int) (C := RX4) (T := TX4) (N := 6) hx hb htg ig_4 tyX4 tyX4_ok nmX4 hown hK hP hD hS 0 rfl rfl 1 (by decide) (htg _ q_218) (fun _ h9 => h9) rfl (by decide +kernel) rfl rfl (Nat.le_of_ble_eq_true rfl) dX4_append_34 (fun H locs hP hD hS => ?_)
    have hP : va_P D vwCl [(a0, .inr (4, [.ref a0_bytes, .int 2, .int (-1), .int 0, .int 0, .int 0])), (a0_bytes, .inl (E 0, 250, .inl (upd (upd (fun _ => 0) 0 ((v_v >>> ((24 : Int32) &&& 31)) &&& 255)) 1 ((v_v >>> ((16 : Int32) &&& 31)) &&& 255))))] H := hP
    have hD : va_D A [(a0, .inr (4, [.ref a0_bytes, .int 2, .int (-1), .int 0, .int 0, .int 0])), (a0_bytes, .inl (E 0, 250, .inl (upd (upd (fun _ => 0) 0 ((v_v >>> ((24 : Int32) &&& 31)) &&& 255)) 1 ((v_v >>> ((16 : Int32) &&& 31)) &&& 255))))] := hD
    refine lv_iinc (v := 1) (lv' := [(3, .int 1), (0, .ref a0), (1, .int v_v), (2, .int 4)]) hx hb dX4_append_37 hl (k := 0) rfl (by decide) (by decide) rfl (fun ls hl => ?_)
    refine lv_goto (tgt := 4) hx hb dX4_append_40 (by decide) ?_
    refine lv_iload_n hx hb dX4_append_4 rfl (lv_at hl 0 rfl) ?_
    refine lv_if_lt (tgt := 43) hx hb dX4_append_5 (by decide) (fun c => absurd c (show ¬ ((1 : Int32) < 0) from by decide)) (fun _ => ?_)
    refine lv_aload_n hx hb dX4_append_8 rfl (lv_at hl 1 rfl) ?_
    refine va_get (D := D) (ci := 4) (v := .ref a0_bytes) (C := RX4) (T := TX4) (N := 6) hx hb htg ig_4 hown hK hP 0 rfl rfl 0 (by decide) (htg _ q_217) (fun _ h9 => h9) rfl dX4_append_9 ?_
    refine lv_aload_n hx hb dX4_append_12 rfl (lv_at hl 1 rfl) ?_
    refine va_get (D := D) (ci := 4) (v := .int 2) (C := RX4) (T := TX4) (N := 6) hx hb htg ig_4 hown hK hP 0 rfl rfl 1 (by decide) (htg _ q_218) (fun _ h9 => h9) rfl dX4_append_13 ?_
    refine lv_iload_n hx hb dX4_append_16 rfl (lv_at hl 2 rfl) ?_
    refine lv_bipush (v := 8) hx hb dX4_append_17 (by decide) ?_
    refine lv_iload_n hx hb dX4_append_19 rfl (lv_at hl 0 rfl) ?_
    refine lv_imul hx hb dX4_append_20 ?_
    refine oh_nrm (v := 8) (by decide) ?_
    refine lv_ishr hx hb dX4_append_21 ?_
    refine lv_sipush (v := 255) hx hb dX4_append_22 (by decide) ?_
    refine lv_iand hx hb dX4_append_25 ?_
    refine va_iast hx hb hK hP hD hS 1 0 rfl rfl (show vp_in 2 250 by unfold vp_in; decide) dX4_append_26 (fun H locs hP hD hS => ?_)
    have hP : va_P D vwCl [(a0, .inr (4, [.ref a0_bytes, .int 2, .int (-1), .int 0, .int 0, .int 0])), (a0_bytes, .inl (E 0, 250, .inl (upd (upd (upd (fun _ => 0) 0 ((v_v >>> ((24 : Int32) &&& 31)) &&& 255)) 1 ((v_v >>> ((16 : Int32) &&& 31)) &&& 255)) 2 ((v_v >>> ((8 : Int32) &&& 31)) &&& 255))))] H := hP
    have hD : va_D A [(a0, .inr (4, [.ref a0_bytes, .int 2, .int (-1), .int 0, .int 0, .int 0])), (a0_bytes, .inl (E 0, 250, .inl (upd (upd (upd (fun _ => 0) 0 ((v_v >>> ((24 : Int32) &&& 31)) &&& 255)) 1 ((v_v >>> ((16 : Int32) &&& 31)) &&& 255)) 2 ((v_v >>> ((8 : Int32) &&& 31)) &&& 255))))] := hD
    refine lv_aload_n hx hb dX4_append_27 rfl (lv_at hl 1 rfl) ?_
    refine lv_dup hx hb dX4_append_28 rfl ?_
    refine va_get (D := D) (ci := 4) (v := .int 2) (C := RX4) (T := TX4) (N := 6) hx hb htg ig_4 hown hK hP 0 rfl rfl 1 (by decide) (htg _ q_218) (fun _ h9 => h9) rfl dX4_append_29 ?_
    refine lv_iconst (v := 1) hx hb dX4_append_32 (by decide) ?_
    refine lv_iadd hx hb dX4_append_33 ?_
    refine oh_nrm (v := 3) (by decide) ?_
    refine va_put (D := D) (ci := 4) (v := .int 3) (ty := .int) (C := RX4) (T := TX4) (N := 6) hx hb htg ig_4 tyX4 tyX4_ok nmX4 hown hK hP hD hS 0 rfl rfl 1 (by decide) (htg _ q_218) (fun _ h9 => h9) rfl (by decide +kernel) rfl rfl (Nat.le_of_ble_eq_true rfl) dX4_append_34 (fun H locs hP hD hS => ?_)
    have hP : va_P D vwCl [(a0, .inr (4, [.ref a0_bytes, .int 3, .int (-1), .int 0, .int 0, .int 0])), (a0_bytes, .inl (E 0, 250, .inl (upd (upd (upd (fun _ => 0) 0 ((v_v >>> ((24 : Int32) &&& 31)) &&& 255)) 1 ((v_v >>> ((16 : Int32) &&& 31)) &&& 255)) 2 ((v_v >>> ((8 : Int32) &&& 31)) &&& 255))))] H := hP
    have hD : va_D A [(a0, .inr (4, [.ref a0_bytes, .int 3, .int (-1), .int 0, .int 0, .int 0])), (a0_bytes, .inl (E 0, 250, .inl (upd (upd (upd (fun _ => 0) 0 ((v_v >>> ((24 : Int32) &&& 31)) &&& 255)) 1 ((v_v >>> ((16 : Int32) &&& 31)) &&& 255)) 2 ((v_v >>> ((8 : Int32) &&& 31)) &&& 255))))] := hD
    refine lv_iinc (v := 0) (lv' := [(3, .int 0), (0, .ref a0), (1, .int v_v), (2, .int 4)]) hx hb dX4_append_37 hl (k := 0) rfl (by decide) (by decide) rfl (fun ls hl => ?_)
    refine lv_goto (tgt := 4) hx hb dX4_append_40 (by decide) ?_
    refine lv_iload_n hx hb dX4_append_4 rfl (lv_at hl 0 rfl) ?_
    refine lv_if_lt (tgt := 43) hx hb dX4_append_5 (by decide) (fun c => absurd c (show ¬ ((0 : Int32) < 0) from by decide)) (fun _ => ?_)
    refine lv_aload_n hx hb dX4_append_8 rfl (lv_at hl 1 rfl) ?_
    refine va_get (D := D) (ci := 4) (v := .ref a0_bytes) (C := RX4) (T := TX4) (N := 6) hx hb htg ig_4 hown hK hP 0 rfl rfl 0 (by decide) (htg _ q_217) (fun _ h9 => h9) rfl dX4_append_9 ?_
    refine lv_aload_n hx hb dX4_append_12 rfl (lv_at hl 1 rfl) ?_
    refine va_get (D := D) (ci := 4) (v := .int 3) (C := RX4) (T := TX4) (N := 6) hx hb htg ig_4 hown hK hP 0 rfl rfl 1 (by decide) (htg _ q_218) (fun _ h9 => h9) rfl dX4_append_13 ?_
    refine lv_iload_n hx hb dX4_append_16 rfl (lv_at hl 2 rfl) ?_
    refine lv_bipush (v := 8) hx hb dX4_append_17 (by decide) ?_
    refine lv_iload_n hx hb dX4_append_19 rfl (lv_at hl 0 rfl) ?_
    refine lv_imul hx hb dX4_append_20 ?_
    refine oh_nrm (v := 0) (by decide) ?_
    refine lv_ishr hx hb dX4_append_21 ?_
    refine lv_sipush (v := 255) hx hb dX4_append_22 (by decide) ?_
    refine lv_iand hx hb dX4_append_25 ?_
    refine va_iast hx hb hK hP hD hS 1 0 rfl rfl (show vp_in 3 250 by unfold vp_in; decide) dX4_append_26 (fun H locs hP hD hS => ?_)
    have hP : va_P D vwCl [(a0, .inr (4, [.ref a0_bytes, .int 3, .int (-1), .int 0, .int 0, .int 0])), (a0_bytes, .inl (E 0, 250, .inl (upd (upd (upd (upd (fun _ => 0) 0 ((v_v >>> ((24 : Int32) &&& 31)) &&& 255)) 1 ((v_v >>> ((16 : Int32) &&& 31)) &&& 255)) 2 ((v_v >>> ((8 : Int32) &&& 31)) &&& 255)) 3 ((v_v >>> ((0 : Int32) &&& 31)) &&& 255))))] H := hP
    have hD : va_D A [(a0, .inr (4, [.ref a0_bytes, .int 3, .int (-1), .int 0, .int 0, .int 0])), (a0_bytes, .inl (E 0, 250, .inl (upd (upd (upd (upd (fun _ => 0) 0 ((v_v >>> ((24 : Int32) &&& 31)) &&& 255)) 1 ((v_v >>> ((16 : Int32) &&& 31)) &&& 255)) 2 ((v_v >>> ((8 : Int32) &&& 31)) &&& 255)) 3 ((v_v >>> ((0 : Int32) &&& 31)) &&& 255))))] := hD
    refine lv_aload_n hx hb dX4_append_27 rfl (lv_at hl 1 rfl) ?_
    refine lv_dup hx hb dX4_append_28 rfl ?_
    refine va_get (D := D) (ci := 4) (v := .int 3) (C := RX4) (T := TX4) (N := 6) hx hb htg ig_4 hown hK hP 0 rfl rfl 1 (by decide) (htg _ q_218) (fun _ h9 => h9) rfl dX4_append_29 ?_
    refine lv_iconst (v := 1) hx hb dX4_append_32 (by decide) ?_
    refine lv_iadd hx hb dX4_append_33 ?_
    refine oh_nrm (v := 4) (by decide) ?_
    refine va_put (D := D) (ci := 4) (v := .int 4) (ty := .int) (C := RX4) (T := TX4) (N := 6) hx hb htg ig_4 tyX4 tyX4_ok nmX4 hown hK hP hD hS 0 rfl rfl 1 (by decide) (htg _ q_218) (fun _ h9 => h9) rfl (by decide +kernel) rfl rfl (Nat.le_of_ble_eq_true rfl) dX4_append_34 (fun H locs hP hD hS => ?_)
    have hP : va_P D vwCl [(a0, .inr (4, [.ref a0_bytes, .int 4, .int (-1), .int 0, .int 0, .int 0])), (a0_bytes, .inl (E 0, 250, .inl (upd (upd (upd (upd (fun _ => 0) 0 ((v_v >>> ((24 : Int32) &&& 31)) &&& 255)) 1 ((v_v >>> ((16 : Int32) &&& 31)) &&& 255)) 2 ((v_v >>> ((8 : Int32) &&& 31)) &&& 255)) 3 ((v_v >>> ((0 : Int32) &&& 31)) &&& 255))))] H := hP
    have hD : va_D A [(a0, .inr (4, [.ref a0_bytes, .int 4, .int (-1), .int 0, .int 0, .int 0])), (a0_bytes, .inl (E 0, 250, .inl (upd (upd (upd (upd (fun _ => 0) 0 ((v_v >>> ((24 : Int32) &&& 31)) &&& 255)) 1 ((v_v >>> ((16 : Int32) &&& 31)) &&& 255)) 2 ((v_v >>> ((8 : Int32) &&& 31)) &&& 255)) 3 ((v_v >>> ((0 : Int32) &&& 31)) &&& 255))))] := hD
    refine lv_iinc (v := (-1)) (lv' := [(3, .int (-1)), (0, .ref a0), (1, .int v_v), (2, .int 4)]) hx hb dX4_append_37 hl (k := 0) rfl (by decide) (by decide) rfl (fun ls hl => ?_)
    refine lv_goto (tgt := 4) hx hb dX4_append_40 (by decide) ?_
    refine lv_iload_n hx hb dX4_append_4 rfl (lv_at hl 0 rfl) ?_
    refine lv_if_lt (tgt := 43) hx hb dX4_append_5 (by decide) (fun _ => ?_) (fun c => absurd (show (-1 : Int32) < 0 from by decide) c)
    refine W.widen (k := 0) (n := 0) (Nat.le_of_ble_eq_true rfl) (Nat.le_of_ble_eq_true rfl) ?_
    exact W.vret hx hb hr (fun t ht hW => ⟨⟨(upd (upd (upd (upd (fun _ => 0) 0 ((v_v >>> ((24 : Int32) &&& 31)) &&& 255)) 1 ((v_v >>> ((16 : Int32) &&& 31)) &&& 255)) 2 ((v_v >>> ((8 : Int32) &&& 31)) &&& 255)) 3 ((v_v >>> ((0 : Int32) &&& 31)) &&& 255)), rfl, trivial, ⟨by rw [ht]; exact hP.sub [0, 1] rfl, hD.sub [0, 1] (by decide) rfl⟩⟩, hS.F ht⟩) hS.2.2 dX4_append_43
def fX6_feed (v_a : Int32) (v_b : Int32) : Int32 :=
  if (fX6_within v_b 1 4) = 0 then (-2) else v_b
set_option maxHeartbeats 4000000 in
set_option maxRecDepth 100000 in
theorem c_X6_feed (l : Launch) (D : va_G) (E : Nat → ClassId) (G : Nat → Nat) (sz : Nat) (a0 : Nat) (v_a : Int32) (v_b : Int32) (a0_now : Nat) (a0_kept : Nat) (a0_ways : Nat) (a0_shelves : Nat) (a0_tape : Nat) (a0_reader : Nat) (a0_refusals : Nat) (a0_bestPack : Nat) (a0_tape_bytes : Nat) : Met l yX6_feed (oh_w yX6_feed cX6_feed 3 (some .int)) ({ frames := 2, cells := 0, slots := 0, locals := 44 }) (oh_Pm D E G [.ref a0, .int v_a, .int v_b] [(a0, .inr (6, [.ref a0_now, .ref a0_kept, .int 0, .ref a0_ways, .ref a0_shelves, .ref a0_tape, .ref a0_reader, .ref a0_refusals, .ref a0_bestPack])), (a0_tape, .inr (4, [.ref a0_tape_bytes, .int 0, .int (-1), .int 0, .int 0, .int 0])), (a0_tape_bytes, .inl (E 0, 250, .inl (fun _ => 0))), (a0_refusals, .inl (E 0, 5, .inl (fun _ => 0)))] sz) (va_Qi (fun r (_ : Unit) => r = fX6_feed v_a v_b) (oh_B D (va_A [(a0, .inr (6, [.ref a0_now, .ref a0_kept, .int 0, .ref a0_ways, .ref a0_shelves, .ref a0_tape, .ref a0_reader, .ref a0_refusals, .ref a0_bestPack])), (a0_tape, .inr (4, [.ref a0_tape_bytes, .int 0, .int (-1), .int 0, .int 0, .int 0])), (a0_tape_bytes, .inl (E 0, 250, .inl (fun _ => 0))), (a0_refusals, .inl (E 0, 5, .inl (fun _ => 0)))] sz) (fun _ => [])) (va_A [(a0, .inr (6, [.ref a0_now, .ref a0_kept, .int 0, .ref a0_ways, .ref a0_shelves, .ref a0_tape, .ref a0_reader, .ref a0_refusals, .ref a0_bestPack])), (a0_tape, .inr (4, [.ref a0_tape_bytes, .int 0, .int (-1), .int 0, .int 0, .int 0])), (a0_tape_bytes, .inl (E 0, 250, .inl (fun _ => 0))), (a0_refusals, .inl (E 0, 5, .inl (fun _ => 0)))] sz)) 0 0 (va_A [(a0, .inr (6, [.ref a0_now, .ref a0_kept, .int 0, .ref a0_ways, .ref a0_shelves, .ref a0_tape, .ref a0_reader, .ref a0_refusals, .ref a0_bestPack])), (a0_tape, .inr (4, [.ref a0_tape_bytes, .int 0, .int (-1), .int 0, .int 0, .int 0])), (a0_tape_bytes, .inl (E 0, 250, .inl (fun _ => 0))), (a0_refusals, .inl (E 0, 5, .inl (fun _ => 0)))] sz) := by
  refine Met.ofW (cc := cX6_feed) (maxL := 3) (ret := (some .int)) (by decide) rfl ?_
  intro p e s m args below meth c s₁ B hml hv
  obtain ⟨rfl, hsz, hP, hK, hD0, hG⟩ := hv
  have hx := B.exec
  have hb := B.bytes
  have hr := B.returns
  have hts := atoms_spec (ws := (oh_w yX6_feed cX6_feed 3 (some .int))) B.pre
  have htg : ∀ w ∈ oh_t, w.before _ s = true := fun w h => hts w (List.mem_cons_of_mem _ h)
  have hown : s.vm.findClass RX6 = some m.cls := findClass_of_methodNamed B.named
  have hlocks := B.notSynchronized
  subst hsz
  have hD := hD0.self (sz := s.heap.size)
  generalize hAe : va_A [(a0, .inr (6, [.ref a0_now, .ref a0_kept, .int 0, .ref a0_ways, .ref a0_shelves, .ref a0_tape, .ref a0_reader, .ref a0_refusals, .ref a0_bestPack])), (a0_tape, .inr (4, [.ref a0_tape_bytes, .int 0, .int (-1), .int 0, .int 0, .int 0])), (a0_tape_bytes, .inl (E 0, 250, .inl (fun _ => 0))), (a0_refusals, .inl (E 0, 5, .inl (fun _ => 0)))] s.heap.size = A at hD hG ⊢
  have hA : ∀ q : Nat, s.heap.size ≤ q → A q := fun q h => by rw [← hAe]; exact Or.inr h
  have hS : va_S A s.heap s.heap [] := va_S.rf
  have hP : va_P D vwCl [(a0, .inr (6, [.ref a0_now, .ref a0_kept, .int 0, .ref a0_ways, .ref a0_shelves, .ref a0_tape, .ref a0_reader, .ref a0_refusals, .ref a0_bestPack])), (a0_tape, .inr (4, [.ref a0_tape_bytes, .int 0, .int (-1), .int 0, .int 0, .int 0])), (a0_tape_bytes, .inl (E 0, 250, .inl (fun _ => 0))), (a0_refusals, .inl (E 0, 5, .inl (fun _ => 0)))] s.heap := hP
  have hl := lv_entry ([.ref a0, .int v_a, .int v_b]) (n := 3) (Nat.le_of_ble_eq_true rfl)
  rw [lg_entry_eq]
  generalize (lg_sl ([.ref a0, .int v_a, .int v_b]) ++ List.replicate (3 - (lg_sl ([.ref a0, .int v_a, .int v_b])).length) Slot.unset).toArray = ls at hl ⊢
  have hl : lv_has ls 3 [(0, .ref a0), (1, .int v_a), (2, .int v_b)] := hl
  refine lv_iload_n hx hb dX6_feed_0 rfl (lv_at hl 2 rfl) ?_
  refine lv_iconst (v := 1) hx hb dX6_feed_1 (by decide) ?_
  refine lv_iconst (v := 4) hx hb dX6_feed_2 (by decide) ?_
  refine oh_pS (As := [.int v_b, .int 1, .int 4]) (rest := []) (v := fX6_within v_b 1 4) ⟨hx, hb, hml, hown, htg⟩ (c_X6_within l D E G v_b 1 4) (va_cwS 3 htg (oh_gS q_293 q_294 q_66 q_295) rfl rfl rfl pdX6_within ⟨Nat.le_of_ble_eq_true rfl, Nat.le_of_ble_eq_true rfl⟩) hK (hP.sub (ws' := []) [] rfl) hG hS rfl hl.1 rfl (Nat.le_of_ble_eq_true rfl) dX6_feed_3 ⟨Nat.le_of_ble_eq_true rfl, Nat.le_of_ble_eq_true rfl⟩ ?_
  refine lv_if_ne (tgt := 16) hx hb dX6_feed_6 (by decide) (fun (c_1 : ¬ ((fX6_within v_b 1 4) = 0)) => ?_) (fun (c_1 : (fX6_within v_b 1 4) = 0) => ?_)
  · refine lv_aload_n hx hb dX6_feed_16 rfl (lv_at hl 0 rfl) ?_
    refine va_get (D := D) (ci := 6) (v := .ref a0_tape) (C := RX6) (T := TX6) (N := 9) hx hb htg ig_6 hown hK hP 0 rfl rfl 5 (by decide) (htg _ q_263) (fun _ h9 => h9) rfl dX6_feed_17 ?_
    refine va_get (D := D) (ci := 4) (v := .int 0) (C := RX4) (T := TX4) (N := 6) hx hb htg ig_4 hown hK hP 1 rfl rfl 1 (by decide) (htg _ q_219) (fun _ h9 => h9) rfl dX6_feed_20 ?_
    refine lv_iload_n hx hb dX6_feed_23 rfl (lv_at hl 2 rfl) ?_
    refine lv_iadd hx hb dX6_feed_24 ?_
    refine lv_sipush (v := 250) hx hb dX6_feed_25 (by decide) ?_
    refine lv_icmp_le (tgt := 38) hx hb dX6_feed_28 (by decide) (fun _ => ?_) (fun c => absurd (show (0 + v_b) ≤ 250 from oh_f250 c_1) c)
    refine lv_aload_n hx hb dX6_feed_38 rfl (lv_at hl 0 rfl) ?_
    refine va_get (D := D) (ci := 6) (v := .ref a0_tape) (C := RX6) (T := TX6) (N := 9) hx hb htg ig_6 hown hK hP 0 rfl rfl 5 (by decide) (htg _ q_263) (fun _ h9 => h9) rfl dX6_feed_39 ?_
    refine lv_iload_n hx hb dX6_feed_42 rfl (lv_at hl 1 rfl) ?_
    refine lv_iload_n hx hb dX6_feed_43 rfl (lv_at hl 2 rfl) ?_
    refine oh_mVv (As := [.int v_a, .int v_b]) (rest := []) (wr := [(a0, .inr (6, [.ref a0_now, .ref a0_kept, .int 0, .ref a0_ways, .ref a0_shelves, .ref a0_tape, .ref a0_reader, .ref a0_refusals, .ref a0_bestPack])), (a0_refusals, .inl (E 0, 5, .inl (fun _ => 0)))]) ⟨hx, hb, hml, hown, htg⟩ (c_X4_append l D E G s.heap.size a0_tape v_a v_b a0_tape_bytes (oh_f14 c_1)) (cwV 2 htg (oh_gV q_487 q_488 q_489 q_71 q_490) rfl rfl rfl pdVX4_append ⟨Nat.le_of_ble_eq_true rfl, Nat.le_of_ble_eq_true rfl⟩) hK hP hD hG hS hA [1, 2] [0, 3] rfl rfl (by decide) (by decide) (by decide) (va_recv hK hP (ci := 4) (q0 := 1) rfl rfl) rfl hl.1 rfl (Nat.le_of_ble_eq_true rfl) dX6_feed_44 ⟨Nat.le_of_ble_eq_true rfl, Nat.le_of_ble_eq_true rfl⟩ (fun u H locs hw hP hD hS => ?_)
    obtain ⟨hv_a0_bytes_1, rfl⟩ : ∃ z, z = u := ⟨_, rfl⟩
    have hP : va_P D vwCl [(a0, .inr (6, [.ref a0_now, .ref a0_kept, .int 0, .ref a0_ways, .ref a0_shelves, .ref a0_tape, .ref a0_reader, .ref a0_refusals, .ref a0_bestPack])), (a0_refusals, .inl (E 0, 5, .inl (fun _ => 0))), (a0_tape, .inr (4, [.ref a0_tape_bytes, .int v_b, .int (-1), .int 0, .int 0, .int 0])), (a0_tape_bytes, .inl (E 0, 250, .inl hv_a0_bytes_1))] H := hP
    have hD : va_D A [(a0, .inr (6, [.ref a0_now, .ref a0_kept, .int 0, .ref a0_ways, .ref a0_shelves, .ref a0_tape, .ref a0_reader, .ref a0_refusals, .ref a0_bestPack])), (a0_refusals, .inl (E 0, 5, .inl (fun _ => 0))), (a0_tape, .inr (4, [.ref a0_tape_bytes, .int v_b, .int (-1), .int 0, .int 0, .int 0])), (a0_tape_bytes, .inl (E 0, 250, .inl hv_a0_bytes_1))] := hD
    refine W.widen (k := 0) (n := 0) (Nat.le_refl _) (Nat.le_refl _) ?_
    refine lv_aload_n hx hb dX6_feed_47 rfl (lv_at hl 0 rfl) ?_
    refine va_get (D := D) (ci := 6) (v := .ref a0_tape) (C := RX6) (T := TX6) (N := 9) hx hb htg ig_6 hown hK hP 0 rfl rfl 5 (by decide) (htg _ q_263) (fun _ h9 => h9) rfl dX6_feed_48 ?_
    refine va_get (D := D) (ci := 4) (v := .int v_b) (C := RX4) (T := TX4) (N := 6) hx hb htg ig_4 hown hK hP 2 rfl rfl 1 (by decide) (htg _ q_219) (fun _ h9 => h9) rfl dX6_feed_51 ?_
    refine W.widen (k := 0) (n := 0) (Nat.le_of_ble_eq_true rfl) (Nat.le_of_ble_eq_true rfl) ?_
    exact W.iret (v := v_b) hx hb hr (fun t ht hW => ⟨⟨v_b, (), rfl, by unfold fX6_feed; rw [if_neg c_1], ⟨by rw [ht]; exact hP.sub [] rfl, hD.sub [] (by decide) rfl⟩⟩, hS.F ht⟩) hS.2.2 dX6_feed_54
  · refine lv_aload_n hx hb dX6_feed_9 rfl (lv_at hl 0 rfl) ?_
    refine lv_bipush (v := (-2)) hx hb dX6_feed_10 (by decide) ?_
    refine oh_mV (As := [.int (-2)]) (rest := []) (wr := [(a0_tape, .inr (4, [.ref a0_tape_bytes, .int 0, .int (-1), .int 0, .int 0, .int 0])), (a0_tape_bytes, .inl (E 0, 250, .inl (fun _ => 0)))]) ⟨hx, hb, hml, hown, htg⟩ (c_X6_refuse l D E G s.heap.size a0 (-2) a0_now a0_kept a0_ways a0_shelves a0_tape a0_reader a0_refusals a0_bestPack) (cwV 1 htg (oh_gV q_296 q_298 q_0 q_66 q_299) rfl rfl rfl pdVX6_refuse ⟨Nat.le_of_ble_eq_true rfl, Nat.le_of_ble_eq_true rfl⟩) hK hP hD hG hS hA [0, 3] [1, 2] rfl rfl (by decide) (by decide) (by decide) (va_recv hK hP (ci := 6) (q0 := 0) rfl rfl) rfl hl.1 rfl (Nat.le_of_ble_eq_true rfl) dX6_feed_12 ⟨Nat.le_of_ble_eq_true rfl, Nat.le_of_ble_eq_true rfl⟩ (fun r_2 u H locs hw hP hD hS => ?_)
    subst hw
    have hP : va_P D vwCl [(a0_tape, .inr (4, [.ref a0_tape_bytes, .int 0, .int (-1), .int 0, .int 0, .int 0])), (a0_tape_bytes, .inl (E 0, 250, .inl (fun _ => 0))), (a0, .inr (6, [.ref a0_now, .ref a0_kept, .int 0, .ref a0_ways, .ref a0_shelves, .ref a0_tape, .ref a0_reader, .ref a0_refusals, .ref a0_bestPack]))] H := hP
    have hD : va_D A [(a0_tape, .inr (4, [.ref a0_tape_bytes, .int 0, .int (-1), .int 0, .int 0, .int 0])), (a0_tape_bytes, .inl (E 0, 250, .inl (fun _ => 0))), (a0, .inr (6, [.ref a0_now, .ref a0_kept, .int 0, .ref a0_ways, .ref a0_shelves, .ref a0_tape, .ref a0_reader, .ref a0_refusals, .ref a0_bestPack]))] := hD
    refine W.widen (k := 0) (n := 0) (Nat.le_refl _) (Nat.le_refl _) ?_
    refine W.widen (k := 0) (n := 0) (Nat.le_of_ble_eq_true rfl) (Nat.le_of_ble_eq_true rfl) ?_
    exact W.iret (v := (-2)) hx hb hr (fun t ht hW => ⟨⟨(-2), (), rfl, by unfold fX6_feed; rw [if_pos c_1], ⟨by rw [ht]; exact hP.sub [] rfl, hD.sub [] (by decide) rfl⟩⟩, hS.F ht⟩) hS.2.2 dX6_feed_15
set_option maxHeartbeats 4000000 in
set_option maxRecDepth 100000 in
theorem c_X4_advance (l : Launch) (D : va_G) (E : Nat → ClassId) (G : Nat → Nat) (sz : Nat) (a0 : Nat) (a0_bytes : Nat) : Met l yX4_advance (oh_w yX4_advance cX4_advance 1 none) ({ frames := 0, cells := 0, slots := 0, locals := 0 }) (oh_Pm D E G [.ref a0] [(a0, .inr (4, [.ref a0_bytes, .int 0, .int (-1), .int 0, .int 0, .int 0]))] sz) (va_Qv (fun (_ : Unit) => True) (oh_B D (va_A [(a0, .inr (4, [.ref a0_bytes, .int 0, .int (-1), .int 0, .int 0, .int 0]))] sz) (fun _ => [(a0, .inr (4, [.ref a0_bytes, .int 0, .int (-1), .int 0, .int 0, .int 0]))])) (va_A [(a0, .inr (4, [.ref a0_bytes, .int 0, .int (-1), .int 0, .int 0, .int 0]))] sz)) 0 0 (va_A [(a0, .inr (4, [.ref a0_bytes, .int 0, .int (-1), .int 0, .int 0, .int 0]))] sz) := by
  refine Met.ofW (cc := cX4_advance) (maxL := 1) (ret := none) (by decide) rfl ?_
  intro p e s m args below meth c s₁ B hml hv
  obtain ⟨rfl, hsz, hP, hK, hD0, hG⟩ := hv
  have hx := B.exec
  have hb := B.bytes
  have hr := B.returns
  have hts := atoms_spec (ws := (oh_w yX4_advance cX4_advance 1 none)) B.pre
  have htg : ∀ w ∈ oh_t, w.before _ s = true := fun w h => hts w (List.mem_cons_of_mem _ h)
  have hown : s.vm.findClass RX4 = some m.cls := findClass_of_methodNamed B.named
  have hlocks := B.notSynchronized
  subst hsz
  have hD := hD0.self (sz := s.heap.size)
  generalize hAe : va_A [(a0, .inr (4, [.ref a0_bytes, .int 0, .int (-1), .int 0, .int 0, .int 0]))] s.heap.size = A at hD hG ⊢
  have hA : ∀ q : Nat, s.heap.size ≤ q → A q := fun q h => by rw [← hAe]; exact Or.inr h
  have hS : va_S A s.heap s.heap [] := va_S.rf
  have hP : va_P D vwCl [(a0, .inr (4, [.ref a0_bytes, .int 0, .int (-1), .int 0, .int 0, .int 0]))] s.heap := hP
  have hl := lv_entry ([.ref a0]) (n := 1) (Nat.le_of_ble_eq_true rfl)
  rw [lg_entry_eq]
  generalize (lg_sl ([.ref a0]) ++ List.replicate (1 - (lg_sl ([.ref a0])).length) Slot.unset).toArray = ls at hl ⊢
  have hl : lv_has ls 1 [(0, .ref a0)] := hl
  refine lv_aload_n hx hb dX4_advance_0 rfl (lv_at hl 0 rfl) ?_
  refine lv_aload_n hx hb dX4_advance_1 rfl (lv_at hl 0 rfl) ?_
  refine va_get (D := D) (ci := 4) (v := .int 0) (C := RX4) (T := TX4) (N := 6) hx hb htg ig_4 hown hK hP 0 rfl rfl 5 (by decide) (htg _ q_224) (fun _ h9 => h9) rfl dX4_advance_2 ?_
  refine va_put (D := D) (ci := 4) (v := .int 0) (ty := .int) (C := RX4) (T := TX4) (N := 6) hx hb htg ig_4 tyX4 tyX4_ok nmX4 hown hK hP hD hS 0 rfl rfl 4 (by decide) (htg _ q_223) (fun _ h9 => h9) rfl (by decide +kernel) rfl rfl (Nat.le_of_ble_eq_true rfl) dX4_advance_5 (fun H locs hP hD hS => ?_)
  have hP : va_P D vwCl [(a0, .inr (4, [.ref a0_bytes, .int 0, .int (-1), .int 0, .int 0, .int 0]))] H := hP
  have hD : va_D A [(a0, .inr (4, [.ref a0_bytes, .int 0, .int (-1), .int 0, .int 0, .int 0]))] := hD
  refine lv_aload_n hx hb dX4_advance_8 rfl (lv_at hl 0 rfl) ?_
  refine va_get (D := D) (ci := 4) (v := .int 0) (C := RX4) (T := TX4) (N := 6) hx hb htg ig_4 hown hK hP 0 rfl rfl 4 (by decide) (htg _ q_223) (fun _ h9 => h9) rfl dX4_advance_9 ?_
  refine lv_aload_n hx hb dX4_advance_12 rfl (lv_at hl 0 rfl) ?_
  refine va_get (D := D) (ci := 4) (v := .int 0) (C := RX4) (T := TX4) (N := 6) hx hb htg ig_4 hown hK hP 0 rfl rfl 1 (by decide) (htg _ q_218) (fun _ h9 => h9) rfl dX4_advance_13 ?_
  refine lv_icmp_ge (tgt := 46) hx hb dX4_advance_16 (by decide) (fun _ => ?_) (fun c => absurd (show 0 ≤ (0 : Int32) from by decide) c)
  refine lv_aload_n hx hb dX4_advance_46 rfl (lv_at hl 0 rfl) ?_
  refine lv_aload_n hx hb dX4_advance_47 rfl (lv_at hl 0 rfl) ?_
  refine va_get (D := D) (ci := 4) (v := .int 0) (C := RX4) (T := TX4) (N := 6) hx hb htg ig_4 hown hK hP 0 rfl rfl 4 (by decide) (htg _ q_223) (fun _ h9 => h9) rfl dX4_advance_48 ?_
  refine va_put (D := D) (ci := 4) (v := .int 0) (ty := .int) (C := RX4) (T := TX4) (N := 6) hx hb htg ig_4 tyX4 tyX4_ok nmX4 hown hK hP hD hS 0 rfl rfl 5 (by decide) (htg _ q_224) (fun _ h9 => h9) rfl (by decide +kernel) rfl rfl (Nat.le_of_ble_eq_true rfl) dX4_advance_51 (fun H locs hP hD hS => ?_)
  have hP : va_P D vwCl [(a0, .inr (4, [.ref a0_bytes, .int 0, .int (-1), .int 0, .int 0, .int 0]))] H := hP
  have hD : va_D A [(a0, .inr (4, [.ref a0_bytes, .int 0, .int (-1), .int 0, .int 0, .int 0]))] := hD
  refine lv_aload_n hx hb dX4_advance_54 rfl (lv_at hl 0 rfl) ?_
  refine va_get (D := D) (ci := 4) (v := .int 0) (C := RX4) (T := TX4) (N := 6) hx hb htg ig_4 hown hK hP 0 rfl rfl 5 (by decide) (htg _ q_224) (fun _ h9 => h9) rfl dX4_advance_55 ?_
  refine lv_aload_n hx hb dX4_advance_58 rfl (lv_at hl 0 rfl) ?_
  refine va_get (D := D) (ci := 4) (v := .int 0) (C := RX4) (T := TX4) (N := 6) hx hb htg ig_4 hown hK hP 0 rfl rfl 1 (by decide) (htg _ q_218) (fun _ h9 => h9) rfl dX4_advance_59 ?_
  refine lv_icmp_ge (tgt := 106) hx hb dX4_advance_62 (by decide) (fun _ => ?_) (fun c => absurd (show 0 ≤ (0 : Int32) from by decide) c)
  refine lv_aload_n hx hb dX4_advance_106 rfl (lv_at hl 0 rfl) ?_
  refine va_get (D := D) (ci := 4) (v := .int 0) (C := RX4) (T := TX4) (N := 6) hx hb htg ig_4 hown hK hP 0 rfl rfl 5 (by decide) (htg _ q_224) (fun _ h9 => h9) rfl dX4_advance_107 ?_
  refine lv_aload_n hx hb dX4_advance_110 rfl (lv_at hl 0 rfl) ?_
  refine va_get (D := D) (ci := 4) (v := .int 0) (C := RX4) (T := TX4) (N := 6) hx hb htg ig_4 hown hK hP 0 rfl rfl 4 (by decide) (htg _ q_223) (fun _ h9 => h9) rfl dX4_advance_111 ?_
  refine lv_icmp_le (tgt := 123) hx hb dX4_advance_114 (by decide) (fun _ => ?_) (fun c => absurd (show (0 : Int32) ≤ 0 from by decide) c)
  refine lv_aload_n hx hb dX4_advance_123 rfl (lv_at hl 0 rfl) ?_
  refine va_get (D := D) (ci := 4) (v := .int 0) (C := RX4) (T := TX4) (N := 6) hx hb htg ig_4 hown hK hP 0 rfl rfl 5 (by decide) (htg _ q_224) (fun _ h9 => h9) rfl dX4_advance_124 ?_
  refine lv_aload_n hx hb dX4_advance_127 rfl (lv_at hl 0 rfl) ?_
  refine va_get (D := D) (ci := 4) (v := .int 0) (C := RX4) (T := TX4) (N := 6) hx hb htg ig_4 hown hK hP 0 rfl rfl 1 (by decide) (htg _ q_218) (fun _ h9 => h9) rfl dX4_advance_128 ?_
  refine lv_icmp_ge (tgt := 175) hx hb dX4_advance_131 (by decide) (fun _ => ?_) (fun c => absurd (show 0 ≤ (0 : Int32) from by decide) c)
  refine lv_aload_n hx hb dX4_advance_175 rfl (lv_at hl 0 rfl) ?_
  refine va_get (D := D) (ci := 4) (v := .int 0) (C := RX4) (T := TX4) (N := 6) hx hb htg ig_4 hown hK hP 0 rfl rfl 5 (by decide) (htg _ q_224) (fun _ h9 => h9) rfl dX4_advance_176 ?_
  refine lv_aload_n hx hb dX4_advance_179 rfl (lv_at hl 0 rfl) ?_
  refine va_get (D := D) (ci := 4) (v := .int 0) (C := RX4) (T := TX4) (N := 6) hx hb htg ig_4 hown hK hP 0 rfl rfl 4 (by decide) (htg _ q_223) (fun _ h9 => h9) rfl dX4_advance_180 ?_
  refine lv_icmp_le (tgt := 192) hx hb dX4_advance_183 (by decide) (fun _ => ?_) (fun c => absurd (show (0 : Int32) ≤ 0 from by decide) c)
  refine lv_aload_n hx hb dX4_advance_192 rfl (lv_at hl 0 rfl) ?_
  refine va_get (D := D) (ci := 4) (v := .int 0) (C := RX4) (T := TX4) (N := 6) hx hb htg ig_4 hown hK hP 0 rfl rfl 4 (by decide) (htg _ q_223) (fun _ h9 => h9) rfl dX4_advance_193 ?_
  refine lv_aload_n hx hb dX4_advance_196 rfl (lv_at hl 0 rfl) ?_
  refine va_get (D := D) (ci := 4) (v := .int 0) (C := RX4) (T := TX4) (N := 6) hx hb htg ig_4 hown hK hP 0 rfl rfl 1 (by decide) (htg _ q_218) (fun _ h9 => h9) rfl dX4_advance_197 ?_
  refine lv_icmp_lt (tgt := 209) hx hb dX4_advance_200 (by decide) (fun c => absurd c (show ¬ ((0 : Int32) < 0) from by decide)) (fun _ => ?_)
  refine lv_aload_n hx hb dX4_advance_203 rfl (lv_at hl 0 rfl) ?_
  refine lv_iconst (v := 0) hx hb dX4_advance_204 (by decide) ?_
  refine va_put (D := D) (ci := 4) (v := .int 0) (ty := .int) (C := RX4) (T := TX4) (N := 6) hx hb htg ig_4 tyX4 tyX4_ok nmX4 hown hK hP hD hS 0 rfl rfl 3 (by decide) (htg _ q_222) (fun _ h9 => h9) rfl (by decide +kernel) rfl rfl (Nat.le_of_ble_eq_true rfl) dX4_advance_205 (fun H locs hP hD hS => ?_)
  have hP : va_P D vwCl [(a0, .inr (4, [.ref a0_bytes, .int 0, .int (-1), .int 0, .int 0, .int 0]))] H := hP
  have hD : va_D A [(a0, .inr (4, [.ref a0_bytes, .int 0, .int (-1), .int 0, .int 0, .int 0]))] := hD
  refine W.widen (k := 0) (n := 0) (Nat.le_of_ble_eq_true rfl) (Nat.le_of_ble_eq_true rfl) ?_
  exact W.vret hx hb hr (fun t ht hW => ⟨⟨(), rfl, trivial, ⟨by rw [ht]; exact hP.sub [0] rfl, hD.sub [0] (by decide) rfl⟩⟩, hS.F ht⟩) hS.2.2 dX4_advance_208
end
section
set_option maxHeartbeats 4000000 in
set_option maxRecDepth 100000 in
theorem c_X4_rewind (l : Launch) (D : va_G) (E : Nat → ClassId) (G : Nat → Nat) (sz : Nat) (a0 : Nat) (a0_bytes : Nat) : Met l yX4_rewind (oh_w yX4_rewind cX4_rewind 1 none) ({ frames := 1, cells := 0, slots := 0, locals := 20 }) (oh_Pm D E G [.ref a0] [(a0, .inr (4, [.ref a0_bytes, .int 0, .int (-1), .int 0, .int 0, .int 0]))] sz) (va_Qv (fun (_ : Unit) => True) (oh_B D (va_A [(a0, .inr (4, [.ref a0_bytes, .int 0, .int (-1), .int 0, .int 0, .int 0]))] sz) (fun _ => [(a0, .inr (4, [.ref a0_bytes, .int 0, .int (-1), .int 0, .int 0, .int 0]))])) (va_A [(a0, .inr (4, [.ref a0_bytes, .int 0, .int (-1), .int 0, .int 0, .int 0]))] sz)) 0 0 (va_A [(a0, .inr (4, [.ref a0_bytes, .int 0, .int (-1), .int 0, .int 0, .int 0]))] sz) := by
  refine Met.ofW (cc := cX4_rewind) (maxL := 1) (ret := none) (by decide) rfl ?_
  intro p e s m args below meth c s₁ B hml hv
  obtain ⟨rfl, hsz, hP, hK, hD0, hG⟩ := hv
  have hx := B.exec
  have hb := B.bytes
  have hr := B.returns
  have hts := atoms_spec (ws := (oh_w yX4_rewind cX4_rewind 1 none)) B.pre
  have htg : ∀ w ∈ oh_t, w.before _ s = true := fun w h => hts w (List.mem_cons_of_mem _ h)
  have hown : s.vm.findClass RX4 = some m.cls := findClass_of_methodNamed B.named
  have hlocks := B.notSynchronized
  subst hsz
  have hD := hD0.self (sz := s.heap.size)
  generalize hAe : va_A [(a0, .inr (4, [.ref a0_bytes, .int 0, .int (-1), .int 0, .int 0, .int 0]))] s.heap.size = A at hD hG ⊢
  have hA : ∀ q : Nat, s.heap.size ≤ q → A q := fun q h => by rw [← hAe]; exact Or.inr h
  have hS : va_S A s.heap s.heap [] := va_S.rf
  have hP : va_P D vwCl [(a0, .inr (4, [.ref a0_bytes, .int 0, .int (-1), .int 0, .int 0, .int 0]))] s.heap := hP
  have hl := lv_entry ([.ref a0]) (n := 1) (Nat.le_of_ble_eq_true rfl)
  rw [lg_entry_eq]
  generalize (lg_sl ([.ref a0]) ++ List.replicate (1 - (lg_sl ([.ref a0])).length) Slot.unset).toArray = ls at hl ⊢
  have hl : lv_has ls 1 [(0, .ref a0)] := hl
  refine lv_aload_n hx hb dX4_rewind_0 rfl (lv_at hl 0 rfl) ?_
  refine lv_iconst (v := (-1)) hx hb dX4_rewind_1 (by decide) ?_
  refine va_put (D := D) (ci := 4) (v := .int (-1)) (ty := .int) (C := RX4) (T := TX4) (N := 6) hx hb htg ig_4 tyX4 tyX4_ok nmX4 hown hK hP hD hS 0 rfl rfl 2 (by decide) (htg _ q_220) (fun _ h9 => h9) rfl (by decide +kernel) rfl rfl (Nat.le_of_ble_eq_true rfl) dX4_rewind_2 (fun H locs hP hD hS => ?_)
  have hP : va_P D vwCl [(a0, .inr (4, [.ref a0_bytes, .int 0, .int (-1), .int 0, .int 0, .int 0]))] H := hP
  have hD : va_D A [(a0, .inr (4, [.ref a0_bytes, .int 0, .int (-1), .int 0, .int 0, .int 0]))] := hD
  refine lv_aload_n hx hb dX4_rewind_5 rfl (lv_at hl 0 rfl) ?_
  refine lv_iconst (v := 0) hx hb dX4_rewind_6 (by decide) ?_
  refine va_put (D := D) (ci := 4) (v := .int 0) (ty := .int) (C := RX4) (T := TX4) (N := 6) hx hb htg ig_4 tyX4 tyX4_ok nmX4 hown hK hP hD hS 0 rfl rfl 5 (by decide) (htg _ q_224) (fun _ h9 => h9) rfl (by decide +kernel) rfl rfl (Nat.le_of_ble_eq_true rfl) dX4_rewind_7 (fun H locs hP hD hS => ?_)
  have hP : va_P D vwCl [(a0, .inr (4, [.ref a0_bytes, .int 0, .int (-1), .int 0, .int 0, .int 0]))] H := hP
  have hD : va_D A [(a0, .inr (4, [.ref a0_bytes, .int 0, .int (-1), .int 0, .int 0, .int 0]))] := hD
  refine lv_aload_n hx hb dX4_rewind_10 rfl (lv_at hl 0 rfl) ?_
  refine oh_mVv (As := []) (rest := []) (wr := []) ⟨hx, hb, hml, hown, htg⟩ (c_X4_advance l D E G H.size a0 a0_bytes) (cwV 0 htg (oh_gV q_508 q_509 q_510 q_71 q_511) rfl rfl rfl pdVX4_advance ⟨Nat.le_of_ble_eq_true rfl, Nat.le_of_ble_eq_true rfl⟩) hK hP hD hG hS hA [0] [] rfl rfl (by decide) (by decide) (by decide) (va_recv hK hP (ci := 4) (q0 := 0) rfl rfl) rfl hl.1 rfl (Nat.le_of_ble_eq_true rfl) dX4_rewind_11 ⟨Nat.le_of_ble_eq_true rfl, Nat.le_of_ble_eq_true rfl⟩ (fun u H locs hw hP hD hS => ?_)
  have hP : va_P D vwCl [(a0, .inr (4, [.ref a0_bytes, .int 0, .int (-1), .int 0, .int 0, .int 0]))] H := hP
  have hD : va_D A [(a0, .inr (4, [.ref a0_bytes, .int 0, .int (-1), .int 0, .int 0, .int 0]))] := hD
  refine W.widen (k := 0) (n := 0) (Nat.le_refl _) (Nat.le_refl _) ?_
  refine W.widen (k := 0) (n := 0) (Nat.le_of_ble_eq_true rfl) (Nat.le_of_ble_eq_true rfl) ?_
  exact W.vret hx hb hr (fun t ht hW => ⟨⟨(), rfl, trivial, ⟨by rw [ht]; exact hP.sub [0] rfl, hD.sub [0] (by decide) rfl⟩⟩, hS.F ht⟩) hS.2.2 dX4_rewind_14
set_option maxHeartbeats 4000000 in
set_option maxRecDepth 100000 in
theorem c_X4_isWord (l : Launch) (D : va_G) (E : Nat → ClassId) (G : Nat → Nat) (a0 : Nat) (a_w : Nat) (a0_bytes : Nat) : Met l yX4_isWord (oh_w yX4_isWord cX4_isWord 3 (some .boolean)) ({ frames := 0, cells := 0, slots := 0, locals := 0 }) (oh_Pp D E G [.ref a0, .ref a_w] [(a0, .inr (4, [.ref a0_bytes, .int 0, .int (-1), .int 0, .int 0, .int 0]))]) (vp_Si (fun r => r = 0)) 0 0 (fun _ => False) := by
  refine Met.ofW (cc := cX4_isWord) (maxL := 3) (ret := (some .boolean)) (by decide) rfl ?_
  intro p e s m args below meth c s₁ B hml hv
  obtain ⟨rfl, hP, hK, hG⟩ := hv
  have hx := B.exec
  have hb := B.bytes
  have hr := B.returns
  have hts := atoms_spec (ws := (oh_w yX4_isWord cX4_isWord 3 (some .boolean))) B.pre
  have htg : ∀ w ∈ oh_t, w.before _ s = true := fun w h => hts w (List.mem_cons_of_mem _ h)
  have hown : s.vm.findClass RX4 = some m.cls := findClass_of_methodNamed B.named
  have hlocks := B.notSynchronized
  have hS : va_S (fun _ => False) s.heap s.heap [] := va_S.rf
  have hl := lv_entry ([.ref a0, .ref a_w]) (n := 3) (Nat.le_of_ble_eq_true rfl)
  rw [lg_entry_eq]
  generalize (lg_sl ([.ref a0, .ref a_w]) ++ List.replicate (3 - (lg_sl ([.ref a0, .ref a_w])).length) Slot.unset).toArray = ls at hl ⊢
  have hl : lv_has ls 3 [(0, .ref a0), (1, .ref a_w)] := hl
  refine lv_aload_n hx hb dX4_isWord_0 rfl (lv_at hl 0 rfl) ?_
  refine va_get (D := D) (ci := 4) (v := .int (-1)) (C := RX4) (T := TX4) (N := 6) hx hb htg ig_4 hown hK hP 0 rfl rfl 2 (by decide) (htg _ q_220) (fun _ h9 => h9) rfl dX4_isWord_1 ?_
  refine lv_iconst (v := (-1)) hx hb dX4_isWord_4 (by decide) ?_
  refine lv_icmp_ne (tgt := 32) hx hb dX4_isWord_5 (by decide) (fun c => absurd (show (-1 : Int32) = (-1) from by decide) c) (fun _ => ?_)
  refine lv_aload_n hx hb dX4_isWord_8 rfl (lv_at hl 0 rfl) ?_
  refine va_get (D := D) (ci := 4) (v := .int 0) (C := RX4) (T := TX4) (N := 6) hx hb htg ig_4 hown hK hP 0 rfl rfl 3 (by decide) (htg _ q_222) (fun _ h9 => h9) rfl dX4_isWord_9 ?_
  refine lv_iconst (v := 1) hx hb dX4_isWord_12 (by decide) ?_
  refine lv_icmp_ne (tgt := 32) hx hb dX4_isWord_13 (by decide) (fun _ => ?_) (fun c => absurd c (show ¬ ((0 : Int32) = 1) from by decide))
  refine lv_iconst (v := 0) hx hb dX4_isWord_32 (by decide) ?_
  exact W.zret (v := 0) (ty := .boolean) hx hb hr (by decide) (fun t ht hW => ⟨0, rfl, rfl, ht⟩) (fun q h => by cases h) dX4_isWord_33
set_option maxHeartbeats 4000000 in
set_option maxRecDepth 100000 in
theorem c_X4_takeWordIfThere (l : Launch) (D : va_G) (E : Nat → ClassId) (G : Nat → Nat) (a0 : Nat) (a_w : Nat) (a0_bytes : Nat) : Met l yX4_takeWordIfThere (oh_w yX4_takeWordIfThere cX4_takeWordIfThere 3 (some .boolean)) ({ frames := 1, cells := 0, slots := 0, locals := 22 }) (oh_Pp D E G [.ref a0, .ref a_w] [(a0, .inr (4, [.ref a0_bytes, .int 0, .int (-1), .int 0, .int 0, .int 0]))]) (vp_Si (fun r => r = 0)) 0 0 (fun _ => False) := by
  refine Met.ofW (cc := cX4_takeWordIfThere) (maxL := 3) (ret := (some .boolean)) (by decide) rfl ?_
  intro p e s m args below meth c s₁ B hml hv
  obtain ⟨rfl, hP, hK, hG⟩ := hv
  have hx := B.exec
  have hb := B.bytes
  have hr := B.returns
  have hts := atoms_spec (ws := (oh_w yX4_takeWordIfThere cX4_takeWordIfThere 3 (some .boolean))) B.pre
  have htg : ∀ w ∈ oh_t, w.before _ s = true := fun w h => hts w (List.mem_cons_of_mem _ h)
  have hown : s.vm.findClass RX4 = some m.cls := findClass_of_methodNamed B.named
  have hlocks := B.notSynchronized
  have hS : va_S (fun _ => False) s.heap s.heap [] := va_S.rf
  have hl := lv_entry ([.ref a0, .ref a_w]) (n := 3) (Nat.le_of_ble_eq_true rfl)
  rw [lg_entry_eq]
  generalize (lg_sl ([.ref a0, .ref a_w]) ++ List.replicate (3 - (lg_sl ([.ref a0, .ref a_w])).length) Slot.unset).toArray = ls at hl ⊢
  have hl : lv_has ls 3 [(0, .ref a0), (1, .ref a_w)] := hl
  refine lv_aload_n hx hb dX4_takeWordIfThere_0 rfl (lv_at hl 0 rfl) ?_
  refine lv_aload_n hx hb dX4_takeWordIfThere_1 rfl (lv_at hl 1 rfl) ?_
  refine oh_pV (As := [.ref a_w]) (rest := []) (v := 0) ⟨hx, hb, hml, hown, htg⟩ (c_X4_isWord l D E G a0 a_w a0_bytes) (cwV 1 htg (oh_gV q_607 q_518 q_519 q_71 q_520) rfl rfl rfl pdVX4_isWord ⟨Nat.le_of_ble_eq_true rfl, Nat.le_of_ble_eq_true rfl⟩) hK (hP.sub (ws' := [(a0, .inr (4, [.ref a0_bytes, .int 0, .int (-1), .int 0, .int 0, .int 0]))]) [0] rfl) hG hS (va_recv hK hP (ci := 4) (q0 := 0) rfl rfl) rfl hl.1 rfl (Nat.le_of_ble_eq_true rfl) dX4_takeWordIfThere_2 ⟨Nat.le_of_ble_eq_true rfl, Nat.le_of_ble_eq_true rfl⟩ ?_
  refine lv_istore_n (lv' := [(2, .int 0), (0, .ref a0), (1, .ref a_w)]) hx hb dX4_takeWordIfThere_5 rfl hl (by decide) rfl (fun ls hl => ?_)
  refine lv_iload_n hx hb dX4_takeWordIfThere_6 rfl (lv_at hl 0 rfl) ?_
  refine lv_if_eq (tgt := 14) hx hb dX4_takeWordIfThere_7 (by decide) (fun _ => ?_) (fun c => absurd (show (0 : Int32) = 0 from by decide) c)
  refine lv_iload_n hx hb dX4_takeWordIfThere_14 rfl (lv_at hl 0 rfl) ?_
  exact W.zret (v := 0) (ty := .boolean) hx hb hr (by decide) (fun t ht hW => ⟨0, rfl, rfl, ht⟩) (fun q h => by cases h) dX4_takeWordIfThere_15
set_option maxHeartbeats 4000000 in
set_option maxRecDepth 100000 in
theorem c_X4_isSound (l : Launch) (D : va_G) (E : Nat → ClassId) (G : Nat → Nat) (a0 : Nat) (a0_bytes : Nat) : Met l yX4_isSound (oh_w yX4_isSound cX4_isSound 1 (some .boolean)) ({ frames := 0, cells := 0, slots := 0, locals := 0 }) (oh_Pp D E G [.ref a0] [(a0, .inr (4, [.ref a0_bytes, .int 0, .int 0, .int 0, .int 0, .int 0]))]) (vp_Si (fun r => r = 0)) 0 0 (fun _ => False) := by
  refine Met.ofW (cc := cX4_isSound) (maxL := 1) (ret := (some .boolean)) (by decide) rfl ?_
  intro p e s m args below meth c s₁ B hml hv
  obtain ⟨rfl, hP, hK, hG⟩ := hv
  have hx := B.exec
  have hb := B.bytes
  have hr := B.returns
  have hts := atoms_spec (ws := (oh_w yX4_isSound cX4_isSound 1 (some .boolean))) B.pre
  have htg : ∀ w ∈ oh_t, w.before _ s = true := fun w h => hts w (List.mem_cons_of_mem _ h)
  have hown : s.vm.findClass RX4 = some m.cls := findClass_of_methodNamed B.named
  have hlocks := B.notSynchronized
  have hS : va_S (fun _ => False) s.heap s.heap [] := va_S.rf
  have hl := lv_entry ([.ref a0]) (n := 1) (Nat.le_of_ble_eq_true rfl)
  rw [lg_entry_eq]
  generalize (lg_sl ([.ref a0]) ++ List.replicate (1 - (lg_sl ([.ref a0])).length) Slot.unset).toArray = ls at hl ⊢
  have hl : lv_has ls 1 [(0, .ref a0)] := hl
  refine lv_aload_n hx hb dX4_isSound_0 rfl (lv_at hl 0 rfl) ?_
  refine va_get (D := D) (ci := 4) (v := .int 0) (C := RX4) (T := TX4) (N := 6) hx hb htg ig_4 hown hK hP 0 rfl rfl 2 (by decide) (htg _ q_220) (fun _ h9 => h9) rfl dX4_isSound_1 ?_
  refine lv_iconst (v := (-1)) hx hb dX4_isSound_4 (by decide) ?_
  refine lv_icmp_ne (tgt := 12) hx hb dX4_isSound_5 (by decide) (fun _ => ?_) (fun c => absurd c (show ¬ ((0 : Int32) = (-1)) from by decide))
  refine lv_iconst (v := 0) hx hb dX4_isSound_12 (by decide) ?_
  exact W.zret (v := 0) (ty := .boolean) hx hb hr (by decide) (fun t ht hW => ⟨0, rfl, rfl, ht⟩) (fun q h => by cases h) dX4_isSound_13
set_option maxHeartbeats 4000000 in
set_option maxRecDepth 100000 in
theorem c_X4_fail (l : Launch) (D : va_G) (E : Nat → ClassId) (G : Nat → Nat) (sz : Nat) (a0 : Nat) (a0_bytes : Nat) : Met l yX4_fail (oh_w yX4_fail cX4_fail 1 none) ({ frames := 0, cells := 0, slots := 0, locals := 0 }) (oh_Pm D E G [.ref a0] [(a0, .inr (4, [.ref a0_bytes, .int 0, .int (-1), .int 0, .int 0, .int 0]))] sz) (va_Qv (fun (_ : Unit) => True) (oh_B D (va_A [(a0, .inr (4, [.ref a0_bytes, .int 0, .int (-1), .int 0, .int 0, .int 0]))] sz) (fun _ => [(a0, .inr (4, [.ref a0_bytes, .int 0, .int 0, .int 0, .int 0, .int 0]))])) (va_A [(a0, .inr (4, [.ref a0_bytes, .int 0, .int (-1), .int 0, .int 0, .int 0]))] sz)) 0 0 (va_A [(a0, .inr (4, [.ref a0_bytes, .int 0, .int (-1), .int 0, .int 0, .int 0]))] sz) := by
  refine Met.ofW (cc := cX4_fail) (maxL := 1) (ret := none) (by decide) rfl ?_
  intro p e s m args below meth c s₁ B hml hv
  obtain ⟨rfl, hsz, hP, hK, hD0, hG⟩ := hv
  have hx := B.exec
  have hb := B.bytes
  have hr := B.returns
  have hts := atoms_spec (ws := (oh_w yX4_fail cX4_fail 1 none)) B.pre
  have htg : ∀ w ∈ oh_t, w.before _ s = true := fun w h => hts w (List.mem_cons_of_mem _ h)
  have hown : s.vm.findClass RX4 = some m.cls := findClass_of_methodNamed B.named
  have hlocks := B.notSynchronized
  subst hsz
  have hD := hD0.self (sz := s.heap.size)
  generalize hAe : va_A [(a0, .inr (4, [.ref a0_bytes, .int 0, .int (-1), .int 0, .int 0, .int 0]))] s.heap.size = A at hD hG ⊢
  have hA : ∀ q : Nat, s.heap.size ≤ q → A q := fun q h => by rw [← hAe]; exact Or.inr h
  have hS : va_S A s.heap s.heap [] := va_S.rf
  have hP : va_P D vwCl [(a0, .inr (4, [.ref a0_bytes, .int 0, .int (-1), .int 0, .int 0, .int 0]))] s.heap := hP
  have hl := lv_entry ([.ref a0]) (n := 1) (Nat.le_of_ble_eq_true rfl)
  rw [lg_entry_eq]
  generalize (lg_sl ([.ref a0]) ++ List.replicate (1 - (lg_sl ([.ref a0])).length) Slot.unset).toArray = ls at hl ⊢
  have hl : lv_has ls 1 [(0, .ref a0)] := hl
  refine lv_aload_n hx hb dX4_fail_0 rfl (lv_at hl 0 rfl) ?_
  refine va_get (D := D) (ci := 4) (v := .int (-1)) (C := RX4) (T := TX4) (N := 6) hx hb htg ig_4 hown hK hP 0 rfl rfl 2 (by decide) (htg _ q_220) (fun _ h9 => h9) rfl dX4_fail_1 ?_
  refine lv_iconst (v := (-1)) hx hb dX4_fail_4 (by decide) ?_
  refine lv_icmp_ne (tgt := 16) hx hb dX4_fail_5 (by decide) (fun c => absurd (show (-1 : Int32) = (-1) from by decide) c) (fun _ => ?_)
  refine lv_aload_n hx hb dX4_fail_8 rfl (lv_at hl 0 rfl) ?_
  refine lv_aload_n hx hb dX4_fail_9 rfl (lv_at hl 0 rfl) ?_
  refine va_get (D := D) (ci := 4) (v := .int 0) (C := RX4) (T := TX4) (N := 6) hx hb htg ig_4 hown hK hP 0 rfl rfl 4 (by decide) (htg _ q_223) (fun _ h9 => h9) rfl dX4_fail_10 ?_
  refine va_put (D := D) (ci := 4) (v := .int 0) (ty := .int) (C := RX4) (T := TX4) (N := 6) hx hb htg ig_4 tyX4 tyX4_ok nmX4 hown hK hP hD hS 0 rfl rfl 2 (by decide) (htg _ q_220) (fun _ h9 => h9) rfl (by decide +kernel) rfl rfl (Nat.le_of_ble_eq_true rfl) dX4_fail_13 (fun H locs hP hD hS => ?_)
  have hP : va_P D vwCl [(a0, .inr (4, [.ref a0_bytes, .int 0, .int 0, .int 0, .int 0, .int 0]))] H := hP
  have hD : va_D A [(a0, .inr (4, [.ref a0_bytes, .int 0, .int 0, .int 0, .int 0, .int 0]))] := hD
  refine W.widen (k := 0) (n := 0) (Nat.le_of_ble_eq_true rfl) (Nat.le_of_ble_eq_true rfl) ?_
  exact W.vret hx hb hr (fun t ht hW => ⟨⟨(), rfl, trivial, ⟨by rw [ht]; exact hP.sub [0] rfl, hD.sub [0] (by decide) rfl⟩⟩, hS.F ht⟩) hS.2.2 dX4_fail_16
set_option maxHeartbeats 4000000 in
set_option maxRecDepth 100000 in
theorem c_X2_readStatement (l : Launch) (D : va_G) (E : Nat → ClassId) (G : Nat → Nat) (sz : Nat) (a0 : Nat) (a0_tape : Nat) (a0_land : Nat) (a0_countsBefore : Nat) (a0_settingsBefore : Nat) (a0_tape_bytes : Nat) : Met l yX2_readStatement (oh_w yX2_readStatement cX2_readStatement 1 none) ({ frames := 2, cells := 0, slots := 0, locals := 44 }) (oh_Pm D E G [.ref a0] [(a0, .inr (2, [.ref a0_tape, .ref a0_land, .ref a0_countsBefore, .ref a0_settingsBefore])), (a0_tape, .inr (4, [.ref a0_tape_bytes, .int 0, .int (-1), .int 0, .int 0, .int 0]))] sz) (va_Qv (fun (_ : Unit) => True) (oh_B D (va_A [(a0, .inr (2, [.ref a0_tape, .ref a0_land, .ref a0_countsBefore, .ref a0_settingsBefore])), (a0_tape, .inr (4, [.ref a0_tape_bytes, .int 0, .int (-1), .int 0, .int 0, .int 0]))] sz) (fun _ => [(a0, .inr (2, [.ref a0_tape, .ref a0_land, .ref a0_countsBefore, .ref a0_settingsBefore])), (a0_tape, .inr (4, [.ref a0_tape_bytes, .int 0, .int 0, .int 0, .int 0, .int 0]))])) (va_A [(a0, .inr (2, [.ref a0_tape, .ref a0_land, .ref a0_countsBefore, .ref a0_settingsBefore])), (a0_tape, .inr (4, [.ref a0_tape_bytes, .int 0, .int (-1), .int 0, .int 0, .int 0]))] sz)) 0 0 (va_A [(a0, .inr (2, [.ref a0_tape, .ref a0_land, .ref a0_countsBefore, .ref a0_settingsBefore])), (a0_tape, .inr (4, [.ref a0_tape_bytes, .int 0, .int (-1), .int 0, .int 0, .int 0]))] sz) := by
  refine Met.ofW (cc := cX2_readStatement) (maxL := 1) (ret := none) (by decide) rfl ?_
  intro p e s m args below meth c s₁ B hml hv
  obtain ⟨rfl, hsz, hP, hK, hD0, hG⟩ := hv
  have hx := B.exec
  have hb := B.bytes
  have hr := B.returns
  have hts := atoms_spec (ws := (oh_w yX2_readStatement cX2_readStatement 1 none)) B.pre
  have htg : ∀ w ∈ oh_t, w.before _ s = true := fun w h => hts w (List.mem_cons_of_mem _ h)
  have hown : s.vm.findClass RX2 = some m.cls := findClass_of_methodNamed B.named
  have hlocks := B.notSynchronized
  subst hsz
  have hD := hD0.self (sz := s.heap.size)
  generalize hAe : va_A [(a0, .inr (2, [.ref a0_tape, .ref a0_land, .ref a0_countsBefore, .ref a0_settingsBefore])), (a0_tape, .inr (4, [.ref a0_tape_bytes, .int 0, .int (-1), .int 0, .int 0, .int 0]))] s.heap.size = A at hD hG ⊢
  have hA : ∀ q : Nat, s.heap.size ≤ q → A q := fun q h => by rw [← hAe]; exact Or.inr h
  have hS : va_S A s.heap s.heap [] := va_S.rf
  have hP : va_P D vwCl [(a0, .inr (2, [.ref a0_tape, .ref a0_land, .ref a0_countsBefore, .ref a0_settingsBefore])), (a0_tape, .inr (4, [.ref a0_tape_bytes, .int 0, .int (-1), .int 0, .int 0, .int 0]))] s.heap := hP
  have hl := lv_entry ([.ref a0]) (n := 1) (Nat.le_of_ble_eq_true rfl)
  rw [lg_entry_eq]
  generalize (lg_sl ([.ref a0]) ++ List.replicate (1 - (lg_sl ([.ref a0])).length) Slot.unset).toArray = ls at hl ⊢
  have hl : lv_has ls 1 [(0, .ref a0)] := hl
  refine lv_aload_n hx hb dX2_readStatement_0 rfl (lv_at hl 0 rfl) ?_
  refine va_get (D := D) (ci := 2) (v := .ref a0_tape) (C := RX2) (T := TX2) (N := 4) hx hb htg ig_2 hown hK hP 0 rfl rfl 0 (by decide) (htg _ q_245) (fun _ h9 => h9) rfl dX2_readStatement_1 ?_
  refine va_ldcS hx hb hown (hG.2.2.1 ("OneHeavyLoad$Reader", 61, "road", 3) (List.mem_of_getElem? (i := 0) rfl)) dX2_readStatement_4 ?_
  refine oh_pV (As := [.ref (G 3)]) (rest := []) (v := 0) ⟨hx, hb, hml, hown, htg⟩ (c_X4_isWord l D E G a0_tape (G 3) a0_tape_bytes) (cwV 1 htg (oh_gV q_517 q_518 q_519 q_71 q_520) rfl rfl rfl pdVX4_isWord ⟨Nat.le_of_ble_eq_true rfl, Nat.le_of_ble_eq_true rfl⟩) hK (hP.sub (ws' := [(a0_tape, .inr (4, [.ref a0_tape_bytes, .int 0, .int (-1), .int 0, .int 0, .int 0]))]) [1] rfl) hG hS (va_recv hK hP (ci := 4) (q0 := 1) rfl rfl) rfl hl.1 rfl (Nat.le_of_ble_eq_true rfl) dX2_readStatement_6 ⟨Nat.le_of_ble_eq_true rfl, Nat.le_of_ble_eq_true rfl⟩ ?_
  refine lv_if_eq (tgt := 19) hx hb dX2_readStatement_9 (by decide) (fun _ => ?_) (fun c => absurd (show (0 : Int32) = 0 from by decide) c)
  refine lv_aload_n hx hb dX2_readStatement_19 rfl (lv_at hl 0 rfl) ?_
  refine va_get (D := D) (ci := 2) (v := .ref a0_tape) (C := RX2) (T := TX2) (N := 4) hx hb htg ig_2 hown hK hP 0 rfl rfl 0 (by decide) (htg _ q_245) (fun _ h9 => h9) rfl dX2_readStatement_20 ?_
  refine va_ldcS hx hb hown (hG.2.2.1 ("OneHeavyLoad$Reader", 70, "bridge", 8) (List.mem_of_getElem? (i := 5) rfl)) dX2_readStatement_23 ?_
  refine oh_pV (As := [.ref (G 8)]) (rest := []) (v := 0) ⟨hx, hb, hml, hown, htg⟩ (c_X4_isWord l D E G a0_tape (G 8) a0_tape_bytes) (cwV 1 htg (oh_gV q_517 q_518 q_519 q_71 q_520) rfl rfl rfl pdVX4_isWord ⟨Nat.le_of_ble_eq_true rfl, Nat.le_of_ble_eq_true rfl⟩) hK (hP.sub (ws' := [(a0_tape, .inr (4, [.ref a0_tape_bytes, .int 0, .int (-1), .int 0, .int 0, .int 0]))]) [1] rfl) hG hS (va_recv hK hP (ci := 4) (q0 := 1) rfl rfl) rfl hl.1 rfl (Nat.le_of_ble_eq_true rfl) dX2_readStatement_25 ⟨Nat.le_of_ble_eq_true rfl, Nat.le_of_ble_eq_true rfl⟩ ?_
  refine lv_if_eq (tgt := 38) hx hb dX2_readStatement_28 (by decide) (fun _ => ?_) (fun c => absurd (show (0 : Int32) = 0 from by decide) c)
  refine lv_aload_n hx hb dX2_readStatement_38 rfl (lv_at hl 0 rfl) ?_
  refine va_get (D := D) (ci := 2) (v := .ref a0_tape) (C := RX2) (T := TX2) (N := 4) hx hb htg ig_2 hown hK hP 0 rfl rfl 0 (by decide) (htg _ q_245) (fun _ h9 => h9) rfl dX2_readStatement_39 ?_
  refine va_ldcS hx hb hown (hG.2.2.1 ("OneHeavyLoad$Reader", 75, "waggon", 14) (List.mem_of_getElem? (i := 11) rfl)) dX2_readStatement_42 ?_
  refine oh_pV (As := [.ref (G 14)]) (rest := []) (v := 0) ⟨hx, hb, hml, hown, htg⟩ (c_X4_isWord l D E G a0_tape (G 14) a0_tape_bytes) (cwV 1 htg (oh_gV q_517 q_518 q_519 q_71 q_520) rfl rfl rfl pdVX4_isWord ⟨Nat.le_of_ble_eq_true rfl, Nat.le_of_ble_eq_true rfl⟩) hK (hP.sub (ws' := [(a0_tape, .inr (4, [.ref a0_tape_bytes, .int 0, .int (-1), .int 0, .int 0, .int 0]))]) [1] rfl) hG hS (va_recv hK hP (ci := 4) (q0 := 1) rfl rfl) rfl hl.1 rfl (Nat.le_of_ble_eq_true rfl) dX2_readStatement_44 ⟨Nat.le_of_ble_eq_true rfl, Nat.le_of_ble_eq_true rfl⟩ ?_
  refine lv_if_eq (tgt := 57) hx hb dX2_readStatement_47 (by decide) (fun _ => ?_) (fun c => absurd (show (0 : Int32) = 0 from by decide) c)
  refine lv_aload_n hx hb dX2_readStatement_57 rfl (lv_at hl 0 rfl) ?_
  refine va_get (D := D) (ci := 2) (v := .ref a0_tape) (C := RX2) (T := TX2) (N := 4) hx hb htg ig_2 hown hK hP 0 rfl rfl 0 (by decide) (htg _ q_245) (fun _ h9 => h9) rfl dX2_readStatement_58 ?_
  refine va_ldcS hx hb hown (hG.2.2.1 ("OneHeavyLoad$Reader", 80, "part", 17) (List.mem_of_getElem? (i := 14) rfl)) dX2_readStatement_61 ?_
  refine oh_pV (As := [.ref (G 17)]) (rest := []) (v := 0) ⟨hx, hb, hml, hown, htg⟩ (c_X4_isWord l D E G a0_tape (G 17) a0_tape_bytes) (cwV 1 htg (oh_gV q_517 q_518 q_519 q_71 q_520) rfl rfl rfl pdVX4_isWord ⟨Nat.le_of_ble_eq_true rfl, Nat.le_of_ble_eq_true rfl⟩) hK (hP.sub (ws' := [(a0_tape, .inr (4, [.ref a0_tape_bytes, .int 0, .int (-1), .int 0, .int 0, .int 0]))]) [1] rfl) hG hS (va_recv hK hP (ci := 4) (q0 := 1) rfl rfl) rfl hl.1 rfl (Nat.le_of_ble_eq_true rfl) dX2_readStatement_63 ⟨Nat.le_of_ble_eq_true rfl, Nat.le_of_ble_eq_true rfl⟩ ?_
  refine lv_if_eq (tgt := 76) hx hb dX2_readStatement_66 (by decide) (fun _ => ?_) (fun c => absurd (show (0 : Int32) = 0 from by decide) c)
  refine lv_aload_n hx hb dX2_readStatement_76 rfl (lv_at hl 0 rfl) ?_
  refine va_get (D := D) (ci := 2) (v := .ref a0_tape) (C := RX2) (T := TX2) (N := 4) hx hb htg ig_2 hown hK hP 0 rfl rfl 0 (by decide) (htg _ q_245) (fun _ h9 => h9) rfl dX2_readStatement_77 ?_
  refine va_ldcS hx hb hown (hG.2.2.1 ("OneHeavyLoad$Reader", 85, "load", 18) (List.mem_of_getElem? (i := 15) rfl)) dX2_readStatement_80 ?_
  refine oh_pV (As := [.ref (G 18)]) (rest := []) (v := 0) ⟨hx, hb, hml, hown, htg⟩ (c_X4_takeWordIfThere l D E G a0_tape (G 18) a0_tape_bytes) (cwV 1 htg (oh_gV q_613 q_614 q_615 q_71 q_616) rfl rfl rfl pdVX4_takeWordIfThere ⟨Nat.le_of_ble_eq_true rfl, Nat.le_of_ble_eq_true rfl⟩) hK (hP.sub (ws' := [(a0_tape, .inr (4, [.ref a0_tape_bytes, .int 0, .int (-1), .int 0, .int 0, .int 0]))]) [1] rfl) hG hS (va_recv hK hP (ci := 4) (q0 := 1) rfl rfl) rfl hl.1 rfl (Nat.le_of_ble_eq_true rfl) dX2_readStatement_82 ⟨Nat.le_of_ble_eq_true rfl, Nat.le_of_ble_eq_true rfl⟩ ?_
  refine lv_if_eq (tgt := 96) hx hb dX2_readStatement_85 (by decide) (fun _ => ?_) (fun c => absurd (show (0 : Int32) = 0 from by decide) c)
  refine lv_aload_n hx hb dX2_readStatement_96 rfl (lv_at hl 0 rfl) ?_
  refine va_get (D := D) (ci := 2) (v := .ref a0_tape) (C := RX2) (T := TX2) (N := 4) hx hb htg ig_2 hown hK hP 0 rfl rfl 0 (by decide) (htg _ q_245) (fun _ h9 => h9) rfl dX2_readStatement_97 ?_
  refine va_ldcS hx hb hown (hG.2.2.1 ("OneHeavyLoad$Reader", 94, "mile", 19) (List.mem_of_getElem? (i := 16) rfl)) dX2_readStatement_100 ?_
  refine oh_pV (As := [.ref (G 19)]) (rest := []) (v := 0) ⟨hx, hb, hml, hown, htg⟩ (c_X4_takeWordIfThere l D E G a0_tape (G 19) a0_tape_bytes) (cwV 1 htg (oh_gV q_613 q_614 q_615 q_71 q_616) rfl rfl rfl pdVX4_takeWordIfThere ⟨Nat.le_of_ble_eq_true rfl, Nat.le_of_ble_eq_true rfl⟩) hK (hP.sub (ws' := [(a0_tape, .inr (4, [.ref a0_tape_bytes, .int 0, .int (-1), .int 0, .int 0, .int 0]))]) [1] rfl) hG hS (va_recv hK hP (ci := 4) (q0 := 1) rfl rfl) rfl hl.1 rfl (Nat.le_of_ble_eq_true rfl) dX2_readStatement_102 ⟨Nat.le_of_ble_eq_true rfl, Nat.le_of_ble_eq_true rfl⟩ ?_
  refine lv_if_eq (tgt := 116) hx hb dX2_readStatement_105 (by decide) (fun _ => ?_) (fun c => absurd (show (0 : Int32) = 0 from by decide) c)
  refine lv_aload_n hx hb dX2_readStatement_116 rfl (lv_at hl 0 rfl) ?_
  refine va_get (D := D) (ci := 2) (v := .ref a0_tape) (C := RX2) (T := TX2) (N := 4) hx hb htg ig_2 hown hK hP 0 rfl rfl 0 (by decide) (htg _ q_245) (fun _ h9 => h9) rfl dX2_readStatement_117 ?_
  refine oh_mVv (As := []) (rest := []) (wr := [(a0, .inr (2, [.ref a0_tape, .ref a0_land, .ref a0_countsBefore, .ref a0_settingsBefore]))]) ⟨hx, hb, hml, hown, htg⟩ (c_X4_fail l D E G s.heap.size a0_tape a0_tape_bytes) (cwV 0 htg (oh_gV q_579 q_580 q_581 q_71 q_582) rfl rfl rfl pdVX4_fail ⟨Nat.le_of_ble_eq_true rfl, Nat.le_of_ble_eq_true rfl⟩) hK hP hD hG hS hA [1] [0] rfl rfl (by decide) (by decide) (by decide) (va_recv hK hP (ci := 4) (q0 := 1) rfl rfl) rfl hl.1 rfl (Nat.le_of_ble_eq_true rfl) dX2_readStatement_120 ⟨Nat.le_of_ble_eq_true rfl, Nat.le_of_ble_eq_true rfl⟩ (fun u H locs hw hP hD hS => ?_)
  have hP : va_P D vwCl [(a0, .inr (2, [.ref a0_tape, .ref a0_land, .ref a0_countsBefore, .ref a0_settingsBefore])), (a0_tape, .inr (4, [.ref a0_tape_bytes, .int 0, .int 0, .int 0, .int 0, .int 0]))] H := hP
  have hD : va_D A [(a0, .inr (2, [.ref a0_tape, .ref a0_land, .ref a0_countsBefore, .ref a0_settingsBefore])), (a0_tape, .inr (4, [.ref a0_tape_bytes, .int 0, .int 0, .int 0, .int 0, .int 0]))] := hD
  refine W.widen (k := 0) (n := 0) (Nat.le_refl _) (Nat.le_refl _) ?_
  refine W.widen (k := 0) (n := 0) (Nat.le_of_ble_eq_true rfl) (Nat.le_of_ble_eq_true rfl) ?_
  exact W.vret hx hb hr (fun t ht hW => ⟨⟨(), rfl, trivial, ⟨by rw [ht]; exact hP.sub [0, 1] rfl, hD.sub [0, 1] (by decide) rfl⟩⟩, hS.F ht⟩) hS.2.2 dX2_readStatement_123
set_option maxHeartbeats 4000000 in
set_option maxRecDepth 100000 in
theorem c_X2_read (l : Launch) (D : va_G) (E : Nat → ClassId) (G : Nat → Nat) (sz : Nat) (a0 : Nat) (a0_tape : Nat) (a0_land : Nat) (a0_countsBefore : Nat) (a0_settingsBefore : Nat) (a0_tape_bytes : Nat) (a0_land_counts : Nat) (a0_land_roads : Nat) (a0_land_bridges : Nat) (a0_land_waggons : Nat) (a0_land_parts : Nat) (a0_land_settings : Nat) (a0_land_trip : Nat) : Met l yX2_read (oh_w yX2_read cX2_read 2 (some .int)) ({ frames := 3, cells := 0, slots := 0, locals := 64 }) (oh_Pm D E G [.ref a0] [(a0, .inr (2, [.ref a0_tape, .ref a0_land, .ref a0_countsBefore, .ref a0_settingsBefore])), (a0_tape, .inr (4, [.ref a0_tape_bytes, .int 0, .int (-1), .int 0, .int 0, .int 0])), (a0_land, .inr (0, [.ref a0_land_counts, .ref a0_land_roads, .ref a0_land_bridges, .ref a0_land_waggons, .ref a0_land_parts, .ref a0_land_settings, .ref a0_land_trip, .int 0])), (a0_land_counts, .inl (E 0, 4, .inl (fun _ => 0))), (a0_land_settings, .inl (E 0, 3, .inl (upd (upd (fun _ => 0) 0 100) 1 2))), (a0_countsBefore, .inl (E 0, 4, .inl (fun _ => 0))), (a0_settingsBefore, .inl (E 0, 3, .inl (fun _ => 0)))] sz) (va_Qi (fun r (_ : Unit) => r = 1) (oh_B D (va_A [(a0, .inr (2, [.ref a0_tape, .ref a0_land, .ref a0_countsBefore, .ref a0_settingsBefore])), (a0_tape, .inr (4, [.ref a0_tape_bytes, .int 0, .int (-1), .int 0, .int 0, .int 0])), (a0_land, .inr (0, [.ref a0_land_counts, .ref a0_land_roads, .ref a0_land_bridges, .ref a0_land_waggons, .ref a0_land_parts, .ref a0_land_settings, .ref a0_land_trip, .int 0])), (a0_land_counts, .inl (E 0, 4, .inl (fun _ => 0))), (a0_land_settings, .inl (E 0, 3, .inl (upd (upd (fun _ => 0) 0 100) 1 2))), (a0_countsBefore, .inl (E 0, 4, .inl (fun _ => 0))), (a0_settingsBefore, .inl (E 0, 3, .inl (fun _ => 0)))] sz) (fun _ => [(a0_tape, .inr (4, [.ref a0_tape_bytes, .int 0, .int 0, .int 0, .int 0, .int 0]))])) (va_A [(a0, .inr (2, [.ref a0_tape, .ref a0_land, .ref a0_countsBefore, .ref a0_settingsBefore])), (a0_tape, .inr (4, [.ref a0_tape_bytes, .int 0, .int (-1), .int 0, .int 0, .int 0])), (a0_land, .inr (0, [.ref a0_land_counts, .ref a0_land_roads, .ref a0_land_bridges, .ref a0_land_waggons, .ref a0_land_parts, .ref a0_land_settings, .ref a0_land_trip, .int 0])), (a0_land_counts, .inl (E 0, 4, .inl (fun _ => 0))), (a0_land_settings, .inl (E 0, 3, .inl (upd (upd (fun _ => 0) 0 100) 1 2))), (a0_countsBefore, .inl (E 0, 4, .inl (fun _ => 0))), (a0_settingsBefore, .inl (E 0, 3, .inl (fun _ => 0)))] sz)) 0 0 (va_A [(a0, .inr (2, [.ref a0_tape, .ref a0_land, .ref a0_countsBefore, .ref a0_settingsBefore])), (a0_tape, .inr (4, [.ref a0_tape_bytes, .int 0, .int (-1), .int 0, .int 0, .int 0])), (a0_land, .inr (0, [.ref a0_land_counts, .ref a0_land_roads, .ref a0_land_bridges, .ref a0_land_waggons, .ref a0_land_parts, .ref a0_land_settings, .ref a0_land_trip, .int 0])), (a0_land_counts, .inl (E 0, 4, .inl (fun _ => 0))), (a0_land_settings, .inl (E 0, 3, .inl (upd (upd (fun _ => 0) 0 100) 1 2))), (a0_countsBefore, .inl (E 0, 4, .inl (fun _ => 0))), (a0_settingsBefore, .inl (E 0, 3, .inl (fun _ => 0)))] sz) := by
  refine Met.ofW (cc := cX2_read) (maxL := 2) (ret := (some .int)) (by decide) rfl ?_
  intro p e s m args below meth c s₁ B hml hv
  obtain ⟨rfl, hsz, hP, hK, hD0, hG⟩ := hv
  have hx := B.exec
  have hb := B.bytes
  have hr := B.returns
  have hts := atoms_spec (ws := (oh_w yX2_read cX2_read 2 (some .int))) B.pre
  have htg : ∀ w ∈ oh_t, w.before _ s = true := fun w h => hts w (List.mem_cons_of_mem _ h)
  have hown : s.vm.findClass RX2 = some m.cls := findClass_of_methodNamed B.named
  have hlocks := B.notSynchronized
  subst hsz
  have hD := hD0.self (sz := s.heap.size)
  generalize hAe : va_A [(a0, .inr (2, [.ref a0_tape, .ref a0_land, .ref a0_countsBefore, .ref a0_settingsBefore])), (a0_tape, .inr (4, [.ref a0_tape_bytes, .int 0, .int (-1), .int 0, .int 0, .int 0])), (a0_land, .inr (0, [.ref a0_land_counts, .ref a0_land_roads, .ref a0_land_bridges, .ref a0_land_waggons, .ref a0_land_parts, .ref a0_land_settings, .ref a0_land_trip, .int 0])), (a0_land_counts, .inl (E 0, 4, .inl (fun _ => 0))), (a0_land_settings, .inl (E 0, 3, .inl (upd (upd (fun _ => 0) 0 100) 1 2))), (a0_countsBefore, .inl (E 0, 4, .inl (fun _ => 0))), (a0_settingsBefore, .inl (E 0, 3, .inl (fun _ => 0)))] s.heap.size = A at hD hG ⊢
  have hA : ∀ q : Nat, s.heap.size ≤ q → A q := fun q h => by rw [← hAe]; exact Or.inr h
  have hS : va_S A s.heap s.heap [] := va_S.rf
  have hP : va_P D vwCl [(a0, .inr (2, [.ref a0_tape, .ref a0_land, .ref a0_countsBefore, .ref a0_settingsBefore])), (a0_tape, .inr (4, [.ref a0_tape_bytes, .int 0, .int (-1), .int 0, .int 0, .int 0])), (a0_land, .inr (0, [.ref a0_land_counts, .ref a0_land_roads, .ref a0_land_bridges, .ref a0_land_waggons, .ref a0_land_parts, .ref a0_land_settings, .ref a0_land_trip, .int 0])), (a0_land_counts, .inl (E 0, 4, .inl (fun _ => 0))), (a0_land_settings, .inl (E 0, 3, .inl (upd (upd (fun _ => 0) 0 100) 1 2))), (a0_countsBefore, .inl (E 0, 4, .inl (fun _ => 0))), (a0_settingsBefore, .inl (E 0, 3, .inl (fun _ => 0)))] s.heap := hP
  have hl := lv_entry ([.ref a0]) (n := 2) (Nat.le_of_ble_eq_true rfl)
  rw [lg_entry_eq]
  generalize (lg_sl ([.ref a0]) ++ List.replicate (2 - (lg_sl ([.ref a0])).length) Slot.unset).toArray = ls at hl ⊢
  have hl : lv_has ls 2 [(0, .ref a0)] := hl
  refine lv_aload_n hx hb dX2_read_0 rfl (lv_at hl 0 rfl) ?_
  refine va_get (D := D) (ci := 2) (v := .ref a0_land) (C := RX2) (T := TX2) (N := 4) hx hb htg ig_2 hown hK hP 0 rfl rfl 1 (by decide) (htg _ q_246) (fun _ h9 => h9) rfl dX2_read_1 ?_
  refine va_get (D := D) (ci := 0) (v := .ref a0_land_counts) (C := RX0) (T := TX0) (N := 8) hx hb htg ig_0 hown hK hP 2 rfl rfl 0 (by decide) (htg _ q_98) (fun _ h9 => h9) rfl dX2_read_4 ?_
  refine lv_iconst (v := 0) hx hb dX2_read_7 (by decide) ?_
  refine lv_aload_n hx hb dX2_read_8 rfl (lv_at hl 0 rfl) ?_
  refine va_get (D := D) (ci := 2) (v := .ref a0_countsBefore) (C := RX2) (T := TX2) (N := 4) hx hb htg ig_2 hown hK hP 0 rfl rfl 2 (by decide) (htg _ q_247) (fun _ h9 => h9) rfl dX2_read_9 ?_
  refine lv_iconst (v := 0) hx hb dX2_read_12 (by decide) ?_
  refine lv_aload_n hx hb dX2_read_13 rfl (lv_at hl 0 rfl) ?_
  refine va_get (D := D) (ci := 2) (v := .ref a0_countsBefore) (C := RX2) (T := TX2) (N := 4) hx hb htg ig_2 hown hK hP 0 rfl rfl 2 (by decide) (htg _ q_247) (fun _ h9 => h9) rfl dX2_read_14 ?_
  refine va_alen (v := 4) hx hb hK hP 5 0 rfl rfl (by decide) dX2_read_17 ?_
  refine va_copyi (ty := .int) hx hb (by rw [hml]; exact hl.1.symm) hown (htg _ q_503) (htg _ q_347) (htg _ q_346) (htg _ q_74) hK hP hD hS 3 5 0 0 rfl rfl rfl rfl rfl (by decide) (by decide) (by decide) (by decide) (by decide) (fun _ _ => rfl) (Nat.le_of_ble_eq_true rfl) (Nat.le_of_ble_eq_true rfl) dX2_read_18 (fun H locs hP hD hS => ?_)
  have hP : va_P D vwCl [(a0, .inr (2, [.ref a0_tape, .ref a0_land, .ref a0_countsBefore, .ref a0_settingsBefore])), (a0_tape, .inr (4, [.ref a0_tape_bytes, .int 0, .int (-1), .int 0, .int 0, .int 0])), (a0_land, .inr (0, [.ref a0_land_counts, .ref a0_land_roads, .ref a0_land_bridges, .ref a0_land_waggons, .ref a0_land_parts, .ref a0_land_settings, .ref a0_land_trip, .int 0])), (a0_land_counts, .inl (E 0, 4, .inl (fun _ => 0))), (a0_land_settings, .inl (E 0, 3, .inl (upd (upd (fun _ => 0) 0 100) 1 2))), (a0_countsBefore, .inl (E 0, 4, .inl (va_cpy (fun _ => 0) (fun _ => 0) 0 0 4))), (a0_settingsBefore, .inl (E 0, 3, .inl (fun _ => 0)))] H := hP
  have hD : va_D A [(a0, .inr (2, [.ref a0_tape, .ref a0_land, .ref a0_countsBefore, .ref a0_settingsBefore])), (a0_tape, .inr (4, [.ref a0_tape_bytes, .int 0, .int (-1), .int 0, .int 0, .int 0])), (a0_land, .inr (0, [.ref a0_land_counts, .ref a0_land_roads, .ref a0_land_bridges, .ref a0_land_waggons, .ref a0_land_parts, .ref a0_land_settings, .ref a0_land_trip, .int 0])), (a0_land_counts, .inl (E 0, 4, .inl (fun _ => 0))), (a0_land_settings, .inl (E 0, 3, .inl (upd (upd (fun _ => 0) 0 100) 1 2))), (a0_countsBefore, .inl (E 0, 4, .inl (va_cpy (fun _ => 0) (fun _ => 0) 0 0 4))), (a0_settingsBefore, .inl (E 0, 3, .inl (fun _ => 0)))] := hD
  refine lv_aload_n hx hb dX2_read_21 rfl (lv_at hl 0 rfl) ?_
  refine va_get (D := D) (ci := 2) (v := .ref a0_land) (C := RX2) (T := TX2) (N := 4) hx hb htg ig_2 hown hK hP 0 rfl rfl 1 (by decide) (htg _ q_246) (fun _ h9 => h9) rfl dX2_read_22 ?_
  refine va_get (D := D) (ci := 0) (v := .ref a0_land_settings) (C := RX0) (T := TX0) (N := 8) hx hb htg ig_0 hown hK hP 2 rfl rfl 5 (by decide) (htg _ q_107) (fun _ h9 => h9) rfl dX2_read_25 ?_
  refine lv_iconst (v := 0) hx hb dX2_read_28 (by decide) ?_
  refine lv_aload_n hx hb dX2_read_29 rfl (lv_at hl 0 rfl) ?_
  refine va_get (D := D) (ci := 2) (v := .ref a0_settingsBefore) (C := RX2) (T := TX2) (N := 4) hx hb htg ig_2 hown hK hP 0 rfl rfl 3 (by decide) (htg _ q_248) (fun _ h9 => h9) rfl dX2_read_30 ?_
  refine lv_iconst (v := 0) hx hb dX2_read_33 (by decide) ?_
  refine lv_aload_n hx hb dX2_read_34 rfl (lv_at hl 0 rfl) ?_
  refine va_get (D := D) (ci := 2) (v := .ref a0_settingsBefore) (C := RX2) (T := TX2) (N := 4) hx hb htg ig_2 hown hK hP 0 rfl rfl 3 (by decide) (htg _ q_248) (fun _ h9 => h9) rfl dX2_read_35 ?_
  refine va_alen (v := 3) hx hb hK hP 6 0 rfl rfl (by decide) dX2_read_38 ?_
  refine va_copyi (ty := .int) hx hb (by rw [hml]; exact hl.1.symm) hown (htg _ q_503) (htg _ q_347) (htg _ q_346) (htg _ q_74) hK hP hD hS 4 6 0 0 rfl rfl rfl rfl rfl (by decide) (by decide) (by decide) (by decide) (by decide) (fun _ _ => rfl) (Nat.le_of_ble_eq_true rfl) (Nat.le_of_ble_eq_true rfl) dX2_read_39 (fun H locs hP hD hS => ?_)
  have hP : va_P D vwCl [(a0, .inr (2, [.ref a0_tape, .ref a0_land, .ref a0_countsBefore, .ref a0_settingsBefore])), (a0_tape, .inr (4, [.ref a0_tape_bytes, .int 0, .int (-1), .int 0, .int 0, .int 0])), (a0_land, .inr (0, [.ref a0_land_counts, .ref a0_land_roads, .ref a0_land_bridges, .ref a0_land_waggons, .ref a0_land_parts, .ref a0_land_settings, .ref a0_land_trip, .int 0])), (a0_land_counts, .inl (E 0, 4, .inl (fun _ => 0))), (a0_land_settings, .inl (E 0, 3, .inl (upd (upd (fun _ => 0) 0 100) 1 2))), (a0_countsBefore, .inl (E 0, 4, .inl (va_cpy (fun _ => 0) (fun _ => 0) 0 0 4))), (a0_settingsBefore, .inl (E 0, 3, .inl (va_cpy (upd (upd (fun _ => 0) 0 100) 1 2) (fun _ => 0) 0 0 3)))] H := hP
  have hD : va_D A [(a0, .inr (2, [.ref a0_tape, .ref a0_land, .ref a0_countsBefore, .ref a0_settingsBefore])), (a0_tape, .inr (4, [.ref a0_tape_bytes, .int 0, .int (-1), .int 0, .int 0, .int 0])), (a0_land, .inr (0, [.ref a0_land_counts, .ref a0_land_roads, .ref a0_land_bridges, .ref a0_land_waggons, .ref a0_land_parts, .ref a0_land_settings, .ref a0_land_trip, .int 0])), (a0_land_counts, .inl (E 0, 4, .inl (fun _ => 0))), (a0_land_settings, .inl (E 0, 3, .inl (upd (upd (fun _ => 0) 0 100) 1 2))), (a0_countsBefore, .inl (E 0, 4, .inl (va_cpy (fun _ => 0) (fun _ => 0) 0 0 4))), (a0_settingsBefore, .inl (E 0, 3, .inl (va_cpy (upd (upd (fun _ => 0) 0 100) 1 2) (fun _ => 0) 0 0 3)))] := hD
  refine lv_aload_n hx hb dX2_read_42 rfl (lv_at hl 0 rfl) ?_
  refine va_get (D := D) (ci := 2) (v := .ref a0_tape) (C := RX2) (T := TX2) (N := 4) hx hb htg ig_2 hown hK hP 0 rfl rfl 0 (by decide) (htg _ q_245) (fun _ h9 => h9) rfl dX2_read_43 ?_
  refine oh_mVv (As := []) (rest := []) (wr := [(a0, .inr (2, [.ref a0_tape, .ref a0_land, .ref a0_countsBefore, .ref a0_settingsBefore])), (a0_land, .inr (0, [.ref a0_land_counts, .ref a0_land_roads, .ref a0_land_bridges, .ref a0_land_waggons, .ref a0_land_parts, .ref a0_land_settings, .ref a0_land_trip, .int 0])), (a0_land_counts, .inl (E 0, 4, .inl (fun _ => 0))), (a0_land_settings, .inl (E 0, 3, .inl (upd (upd (fun _ => 0) 0 100) 1 2))), (a0_countsBefore, .inl (E 0, 4, .inl (va_cpy (fun _ => 0) (fun _ => 0) 0 0 4))), (a0_settingsBefore, .inl (E 0, 3, .inl (va_cpy (upd (upd (fun _ => 0) 0 100) 1 2) (fun _ => 0) 0 0 3)))]) ⟨hx, hb, hml, hown, htg⟩ (c_X4_rewind l D E G H.size a0_tape a0_tape_bytes) (cwV 0 htg (oh_gV q_504 q_505 q_506 q_71 q_507) rfl rfl rfl pdVX4_rewind ⟨Nat.le_of_ble_eq_true rfl, Nat.le_of_ble_eq_true rfl⟩) hK hP hD hG hS hA [1] [0, 2, 3, 4, 5, 6] rfl rfl (by decide) (by decide) (by decide) (va_recv hK hP (ci := 4) (q0 := 1) rfl rfl) rfl hl.1 rfl (Nat.le_of_ble_eq_true rfl) dX2_read_46 ⟨Nat.le_of_ble_eq_true rfl, Nat.le_of_ble_eq_true rfl⟩ (fun u H locs hw hP hD hS => ?_)
  have hP : va_P D vwCl [(a0, .inr (2, [.ref a0_tape, .ref a0_land, .ref a0_countsBefore, .ref a0_settingsBefore])), (a0_land, .inr (0, [.ref a0_land_counts, .ref a0_land_roads, .ref a0_land_bridges, .ref a0_land_waggons, .ref a0_land_parts, .ref a0_land_settings, .ref a0_land_trip, .int 0])), (a0_land_counts, .inl (E 0, 4, .inl (fun _ => 0))), (a0_land_settings, .inl (E 0, 3, .inl (upd (upd (fun _ => 0) 0 100) 1 2))), (a0_countsBefore, .inl (E 0, 4, .inl (va_cpy (fun _ => 0) (fun _ => 0) 0 0 4))), (a0_settingsBefore, .inl (E 0, 3, .inl (va_cpy (upd (upd (fun _ => 0) 0 100) 1 2) (fun _ => 0) 0 0 3))), (a0_tape, .inr (4, [.ref a0_tape_bytes, .int 0, .int (-1), .int 0, .int 0, .int 0]))] H := hP
  have hD : va_D A [(a0, .inr (2, [.ref a0_tape, .ref a0_land, .ref a0_countsBefore, .ref a0_settingsBefore])), (a0_land, .inr (0, [.ref a0_land_counts, .ref a0_land_roads, .ref a0_land_bridges, .ref a0_land_waggons, .ref a0_land_parts, .ref a0_land_settings, .ref a0_land_trip, .int 0])), (a0_land_counts, .inl (E 0, 4, .inl (fun _ => 0))), (a0_land_settings, .inl (E 0, 3, .inl (upd (upd (fun _ => 0) 0 100) 1 2))), (a0_countsBefore, .inl (E 0, 4, .inl (va_cpy (fun _ => 0) (fun _ => 0) 0 0 4))), (a0_settingsBefore, .inl (E 0, 3, .inl (va_cpy (upd (upd (fun _ => 0) 0 100) 1 2) (fun _ => 0) 0 0 3))), (a0_tape, .inr (4, [.ref a0_tape_bytes, .int 0, .int (-1), .int 0, .int 0, .int 0]))] := hD
  refine W.widen (k := 0) (n := 0) (Nat.le_refl _) (Nat.le_refl _) ?_
  refine lv_aload_n hx hb dX2_read_49 rfl (lv_at hl 0 rfl) ?_
  refine oh_mVv (As := []) (rest := []) (wr := [(a0_land, .inr (0, [.ref a0_land_counts, .ref a0_land_roads, .ref a0_land_bridges, .ref a0_land_waggons, .ref a0_land_parts, .ref a0_land_settings, .ref a0_land_trip, .int 0])), (a0_land_counts, .inl (E 0, 4, .inl (fun _ => 0))), (a0_land_settings, .inl (E 0, 3, .inl (upd (upd (fun _ => 0) 0 100) 1 2))), (a0_countsBefore, .inl (E 0, 4, .inl (va_cpy (fun _ => 0) (fun _ => 0) 0 0 4))), (a0_settingsBefore, .inl (E 0, 3, .inl (va_cpy (upd (upd (fun _ => 0) 0 100) 1 2) (fun _ => 0) 0 0 3)))]) ⟨hx, hb, hml, hown, htg⟩ (c_X2_readStatement l D E G H.size a0 a0_tape a0_land a0_countsBefore a0_settingsBefore a0_tape_bytes) (cwV 0 htg (oh_gV q_512 q_514 q_6 q_72 q_515) rfl rfl rfl pdVX2_readStatement ⟨Nat.le_of_ble_eq_true rfl, Nat.le_of_ble_eq_true rfl⟩) hK hP hD hG hS hA [0, 6] [1, 2, 3, 4, 5] rfl rfl (by decide) (by decide) (by decide) (va_recv hK hP (ci := 2) (q0 := 0) rfl rfl) rfl hl.1 rfl (Nat.le_of_ble_eq_true rfl) dX2_read_50 ⟨Nat.le_of_ble_eq_true rfl, Nat.le_of_ble_eq_true rfl⟩ (fun u H locs hw hP hD hS => ?_)
  have hP : va_P D vwCl [(a0_land, .inr (0, [.ref a0_land_counts, .ref a0_land_roads, .ref a0_land_bridges, .ref a0_land_waggons, .ref a0_land_parts, .ref a0_land_settings, .ref a0_land_trip, .int 0])), (a0_land_counts, .inl (E 0, 4, .inl (fun _ => 0))), (a0_land_settings, .inl (E 0, 3, .inl (upd (upd (fun _ => 0) 0 100) 1 2))), (a0_countsBefore, .inl (E 0, 4, .inl (va_cpy (fun _ => 0) (fun _ => 0) 0 0 4))), (a0_settingsBefore, .inl (E 0, 3, .inl (va_cpy (upd (upd (fun _ => 0) 0 100) 1 2) (fun _ => 0) 0 0 3))), (a0, .inr (2, [.ref a0_tape, .ref a0_land, .ref a0_countsBefore, .ref a0_settingsBefore])), (a0_tape, .inr (4, [.ref a0_tape_bytes, .int 0, .int 0, .int 0, .int 0, .int 0]))] H := hP
  have hD : va_D A [(a0_land, .inr (0, [.ref a0_land_counts, .ref a0_land_roads, .ref a0_land_bridges, .ref a0_land_waggons, .ref a0_land_parts, .ref a0_land_settings, .ref a0_land_trip, .int 0])), (a0_land_counts, .inl (E 0, 4, .inl (fun _ => 0))), (a0_land_settings, .inl (E 0, 3, .inl (upd (upd (fun _ => 0) 0 100) 1 2))), (a0_countsBefore, .inl (E 0, 4, .inl (va_cpy (fun _ => 0) (fun _ => 0) 0 0 4))), (a0_settingsBefore, .inl (E 0, 3, .inl (va_cpy (upd (upd (fun _ => 0) 0 100) 1 2) (fun _ => 0) 0 0 3))), (a0, .inr (2, [.ref a0_tape, .ref a0_land, .ref a0_countsBefore, .ref a0_settingsBefore])), (a0_tape, .inr (4, [.ref a0_tape_bytes, .int 0, .int 0, .int 0, .int 0, .int 0]))] := hD
  refine W.widen (k := 0) (n := 0) (Nat.le_refl _) (Nat.le_refl _) ?_
  refine lv_iconst (v := 1) hx hb dX2_read_53 (by decide) ?_
  refine lv_istore_n (lv' := [(1, .int 1), (0, .ref a0)]) hx hb dX2_read_54 rfl hl (by decide) rfl (fun ls hl => ?_)
  refine lv_aload_n hx hb dX2_read_55 rfl (lv_at hl 1 rfl) ?_
  refine va_get (D := D) (ci := 2) (v := .ref a0_tape) (C := RX2) (T := TX2) (N := 4) hx hb htg ig_2 hown hK hP 5 rfl rfl 0 (by decide) (htg _ q_245) (fun _ h9 => h9) rfl dX2_read_56 ?_
  refine oh_pV (As := []) (rest := []) (v := 0) ⟨hx, hb, hml, hown, htg⟩ (c_X4_isSound l D E G a0_tape a0_tape_bytes) (cwV 0 htg (oh_gV q_619 q_592 q_593 q_71 q_594) rfl rfl rfl pdVX4_isSound ⟨Nat.le_of_ble_eq_true rfl, Nat.le_of_ble_eq_true rfl⟩) hK (hP.sub (ws' := [(a0_tape, .inr (4, [.ref a0_tape_bytes, .int 0, .int 0, .int 0, .int 0, .int 0]))]) [6] rfl) hG hS (va_recv hK hP (ci := 4) (q0 := 6) rfl rfl) rfl hl.1 rfl (Nat.le_of_ble_eq_true rfl) dX2_read_59 ⟨Nat.le_of_ble_eq_true rfl, Nat.le_of_ble_eq_true rfl⟩ ?_
  refine lv_if_eq (tgt := 99) hx hb dX2_read_62 (by decide) (fun _ => ?_) (fun c => absurd (show (0 : Int32) = 0 from by decide) c)
  refine lv_aload_n hx hb dX2_read_99 rfl (lv_at hl 1 rfl) ?_
  refine va_get (D := D) (ci := 2) (v := .ref a0_tape) (C := RX2) (T := TX2) (N := 4) hx hb htg ig_2 hown hK hP 5 rfl rfl 0 (by decide) (htg _ q_245) (fun _ h9 => h9) rfl dX2_read_100 ?_
  refine oh_pV (As := []) (rest := []) (v := 0) ⟨hx, hb, hml, hown, htg⟩ (c_X4_isSound l D E G a0_tape a0_tape_bytes) (cwV 0 htg (oh_gV q_619 q_592 q_593 q_71 q_594) rfl rfl rfl pdVX4_isSound ⟨Nat.le_of_ble_eq_true rfl, Nat.le_of_ble_eq_true rfl⟩) hK (hP.sub (ws' := [(a0_tape, .inr (4, [.ref a0_tape_bytes, .int 0, .int 0, .int 0, .int 0, .int 0]))]) [6] rfl) hG hS (va_recv hK hP (ci := 4) (q0 := 6) rfl rfl) rfl hl.1 rfl (Nat.le_of_ble_eq_true rfl) dX2_read_103 ⟨Nat.le_of_ble_eq_true rfl, Nat.le_of_ble_eq_true rfl⟩ ?_
  refine lv_if_ne (tgt := 151) hx hb dX2_read_106 (by decide) (fun c => absurd (show (0 : Int32) = 0 from by decide) c) (fun _ => ?_)
  refine lv_aload_n hx hb dX2_read_109 rfl (lv_at hl 1 rfl) ?_
  refine va_get (D := D) (ci := 2) (v := .ref a0_countsBefore) (C := RX2) (T := TX2) (N := 4) hx hb htg ig_2 hown hK hP 5 rfl rfl 2 (by decide) (htg _ q_247) (fun _ h9 => h9) rfl dX2_read_110 ?_
  refine lv_iconst (v := 0) hx hb dX2_read_113 (by decide) ?_
  refine lv_aload_n hx hb dX2_read_114 rfl (lv_at hl 1 rfl) ?_
  refine va_get (D := D) (ci := 2) (v := .ref a0_land) (C := RX2) (T := TX2) (N := 4) hx hb htg ig_2 hown hK hP 5 rfl rfl 1 (by decide) (htg _ q_246) (fun _ h9 => h9) rfl dX2_read_115 ?_
  refine va_get (D := D) (ci := 0) (v := .ref a0_land_counts) (C := RX0) (T := TX0) (N := 8) hx hb htg ig_0 hown hK hP 0 rfl rfl 0 (by decide) (htg _ q_98) (fun _ h9 => h9) rfl dX2_read_118 ?_
  refine lv_iconst (v := 0) hx hb dX2_read_121 (by decide) ?_
  refine lv_aload_n hx hb dX2_read_122 rfl (lv_at hl 1 rfl) ?_
  refine va_get (D := D) (ci := 2) (v := .ref a0_countsBefore) (C := RX2) (T := TX2) (N := 4) hx hb htg ig_2 hown hK hP 5 rfl rfl 2 (by decide) (htg _ q_247) (fun _ h9 => h9) rfl dX2_read_123 ?_
  refine va_alen (v := 4) hx hb hK hP 3 0 rfl rfl (by decide) dX2_read_126 ?_
  refine va_copyi (ty := .int) hx hb (by rw [hml]; exact hl.1.symm) hown (htg _ q_503) (htg _ q_347) (htg _ q_346) (htg _ q_74) hK hP hD hS 3 1 0 0 rfl rfl rfl rfl rfl (by decide) (by decide) (by decide) (by decide) (by decide) (fun _ _ => rfl) (Nat.le_of_ble_eq_true rfl) (Nat.le_of_ble_eq_true rfl) dX2_read_127 (fun H locs hP hD hS => ?_)
  have hP : va_P D vwCl [(a0_land, .inr (0, [.ref a0_land_counts, .ref a0_land_roads, .ref a0_land_bridges, .ref a0_land_waggons, .ref a0_land_parts, .ref a0_land_settings, .ref a0_land_trip, .int 0])), (a0_land_counts, .inl (E 0, 4, .inl (va_cpy (va_cpy (fun _ => 0) (fun _ => 0) 0 0 4) (fun _ => 0) 0 0 4))), (a0_land_settings, .inl (E 0, 3, .inl (upd (upd (fun _ => 0) 0 100) 1 2))), (a0_countsBefore, .inl (E 0, 4, .inl (va_cpy (fun _ => 0) (fun _ => 0) 0 0 4))), (a0_settingsBefore, .inl (E 0, 3, .inl (va_cpy (upd (upd (fun _ => 0) 0 100) 1 2) (fun _ => 0) 0 0 3))), (a0, .inr (2, [.ref a0_tape, .ref a0_land, .ref a0_countsBefore, .ref a0_settingsBefore])), (a0_tape, .inr (4, [.ref a0_tape_bytes, .int 0, .int 0, .int 0, .int 0, .int 0]))] H := hP
  have hD : va_D A [(a0_land, .inr (0, [.ref a0_land_counts, .ref a0_land_roads, .ref a0_land_bridges, .ref a0_land_waggons, .ref a0_land_parts, .ref a0_land_settings, .ref a0_land_trip, .int 0])), (a0_land_counts, .inl (E 0, 4, .inl (va_cpy (va_cpy (fun _ => 0) (fun _ => 0) 0 0 4) (fun _ => 0) 0 0 4))), (a0_land_settings, .inl (E 0, 3, .inl (upd (upd (fun _ => 0) 0 100) 1 2))), (a0_countsBefore, .inl (E 0, 4, .inl (va_cpy (fun _ => 0) (fun _ => 0) 0 0 4))), (a0_settingsBefore, .inl (E 0, 3, .inl (va_cpy (upd (upd (fun _ => 0) 0 100) 1 2) (fun _ => 0) 0 0 3))), (a0, .inr (2, [.ref a0_tape, .ref a0_land, .ref a0_countsBefore, .ref a0_settingsBefore])), (a0_tape, .inr (4, [.ref a0_tape_bytes, .int 0, .int 0, .int 0, .int 0, .int 0]))] := hD
  refine lv_aload_n hx hb dX2_read_130 rfl (lv_at hl 1 rfl) ?_
  refine va_get (D := D) (ci := 2) (v := .ref a0_settingsBefore) (C := RX2) (T := TX2) (N := 4) hx hb htg ig_2 hown hK hP 5 rfl rfl 3 (by decide) (htg _ q_248) (fun _ h9 => h9) rfl dX2_read_131 ?_
  refine lv_iconst (v := 0) hx hb dX2_read_134 (by decide) ?_
  refine lv_aload_n hx hb dX2_read_135 rfl (lv_at hl 1 rfl) ?_
  refine va_get (D := D) (ci := 2) (v := .ref a0_land) (C := RX2) (T := TX2) (N := 4) hx hb htg ig_2 hown hK hP 5 rfl rfl 1 (by decide) (htg _ q_246) (fun _ h9 => h9) rfl dX2_read_136 ?_
  refine va_get (D := D) (ci := 0) (v := .ref a0_land_settings) (C := RX0) (T := TX0) (N := 8) hx hb htg ig_0 hown hK hP 0 rfl rfl 5 (by decide) (htg _ q_107) (fun _ h9 => h9) rfl dX2_read_139 ?_
  refine lv_iconst (v := 0) hx hb dX2_read_142 (by decide) ?_
  refine lv_aload_n hx hb dX2_read_143 rfl (lv_at hl 1 rfl) ?_
  refine va_get (D := D) (ci := 2) (v := .ref a0_settingsBefore) (C := RX2) (T := TX2) (N := 4) hx hb htg ig_2 hown hK hP 5 rfl rfl 3 (by decide) (htg _ q_248) (fun _ h9 => h9) rfl dX2_read_144 ?_
  refine va_alen (v := 3) hx hb hK hP 4 0 rfl rfl (by decide) dX2_read_147 ?_
  refine va_copyi (ty := .int) hx hb (by rw [hml]; exact hl.1.symm) hown (htg _ q_503) (htg _ q_347) (htg _ q_346) (htg _ q_74) hK hP hD hS 4 2 0 0 rfl rfl rfl rfl rfl (by decide) (by decide) (by decide) (by decide) (by decide) (fun _ _ => rfl) (Nat.le_of_ble_eq_true rfl) (Nat.le_of_ble_eq_true rfl) dX2_read_148 (fun H locs hP hD hS => ?_)
  have hP : va_P D vwCl [(a0_land, .inr (0, [.ref a0_land_counts, .ref a0_land_roads, .ref a0_land_bridges, .ref a0_land_waggons, .ref a0_land_parts, .ref a0_land_settings, .ref a0_land_trip, .int 0])), (a0_land_counts, .inl (E 0, 4, .inl (va_cpy (va_cpy (fun _ => 0) (fun _ => 0) 0 0 4) (fun _ => 0) 0 0 4))), (a0_land_settings, .inl (E 0, 3, .inl (va_cpy (va_cpy (upd (upd (fun _ => 0) 0 100) 1 2) (fun _ => 0) 0 0 3) (upd (upd (fun _ => 0) 0 100) 1 2) 0 0 3))), (a0_countsBefore, .inl (E 0, 4, .inl (va_cpy (fun _ => 0) (fun _ => 0) 0 0 4))), (a0_settingsBefore, .inl (E 0, 3, .inl (va_cpy (upd (upd (fun _ => 0) 0 100) 1 2) (fun _ => 0) 0 0 3))), (a0, .inr (2, [.ref a0_tape, .ref a0_land, .ref a0_countsBefore, .ref a0_settingsBefore])), (a0_tape, .inr (4, [.ref a0_tape_bytes, .int 0, .int 0, .int 0, .int 0, .int 0]))] H := hP
  have hD : va_D A [(a0_land, .inr (0, [.ref a0_land_counts, .ref a0_land_roads, .ref a0_land_bridges, .ref a0_land_waggons, .ref a0_land_parts, .ref a0_land_settings, .ref a0_land_trip, .int 0])), (a0_land_counts, .inl (E 0, 4, .inl (va_cpy (va_cpy (fun _ => 0) (fun _ => 0) 0 0 4) (fun _ => 0) 0 0 4))), (a0_land_settings, .inl (E 0, 3, .inl (va_cpy (va_cpy (upd (upd (fun _ => 0) 0 100) 1 2) (fun _ => 0) 0 0 3) (upd (upd (fun _ => 0) 0 100) 1 2) 0 0 3))), (a0_countsBefore, .inl (E 0, 4, .inl (va_cpy (fun _ => 0) (fun _ => 0) 0 0 4))), (a0_settingsBefore, .inl (E 0, 3, .inl (va_cpy (upd (upd (fun _ => 0) 0 100) 1 2) (fun _ => 0) 0 0 3))), (a0, .inr (2, [.ref a0_tape, .ref a0_land, .ref a0_countsBefore, .ref a0_settingsBefore])), (a0_tape, .inr (4, [.ref a0_tape_bytes, .int 0, .int 0, .int 0, .int 0, .int 0]))] := hD
  refine lv_iload_n hx hb dX2_read_151 rfl (lv_at hl 0 rfl) ?_
  refine W.widen (k := 0) (n := 0) (Nat.le_of_ble_eq_true rfl) (Nat.le_of_ble_eq_true rfl) ?_
  exact W.iret (v := 1) hx hb hr (fun t ht hW => ⟨⟨1, (), rfl, rfl, ⟨by rw [ht]; exact hP.sub [6] rfl, hD.sub [6] (by decide) rfl⟩⟩, hS.F ht⟩) hS.2.2 dX2_read_152
set_option maxHeartbeats 4000000 in
set_option maxRecDepth 100000 in
theorem c_X6_land (l : Launch) (D : va_G) (E : Nat → ClassId) (G : Nat → Nat) (sz : Nat) (a0 : Nat) (a0_now : Nat) (a0_kept : Nat) (a0_ways : Nat) (a0_shelves : Nat) (a0_tape : Nat) (a0_reader : Nat) (a0_refusals : Nat) (a0_bestPack : Nat) (a0_tape_bytes : Nat) (a0_now_counts : Nat) (a0_now_roads : Nat) (a0_now_bridges : Nat) (a0_now_waggons : Nat) (a0_now_parts : Nat) (a0_now_settings : Nat) (a0_now_trip : Nat) (a0_reader_countsBefore : Nat) (a0_reader_settingsBefore : Nat) : Met l yX6_land (oh_w yX6_land cX6_land 2 (some .int)) ({ frames := 4, cells := 0, slots := 0, locals := 85 }) (oh_Pm D E G [.ref a0] [(a0, .inr (6, [.ref a0_now, .ref a0_kept, .int 0, .ref a0_ways, .ref a0_shelves, .ref a0_tape, .ref a0_reader, .ref a0_refusals, .ref a0_bestPack])), (a0_tape, .inr (4, [.ref a0_tape_bytes, .int 0, .int (-1), .int 0, .int 0, .int 0])), (a0_now, .inr (0, [.ref a0_now_counts, .ref a0_now_roads, .ref a0_now_bridges, .ref a0_now_waggons, .ref a0_now_parts, .ref a0_now_settings, .ref a0_now_trip, .int 0])), (a0_now_counts, .inl (E 0, 4, .inl (fun _ => 0))), (a0_now_settings, .inl (E 0, 3, .inl (upd (upd (fun _ => 0) 0 100) 1 2))), (a0_reader, .inr (2, [.ref a0_tape, .ref a0_now, .ref a0_reader_countsBefore, .ref a0_reader_settingsBefore])), (a0_reader_countsBefore, .inl (E 0, 4, .inl (fun _ => 0))), (a0_reader_settingsBefore, .inl (E 0, 3, .inl (fun _ => 0))), (a0_refusals, .inl (E 0, 5, .inl (fun _ => 0)))] sz) (va_Qi (fun r (_ : Unit) => r = (-20)) (oh_B D (va_A [(a0, .inr (6, [.ref a0_now, .ref a0_kept, .int 0, .ref a0_ways, .ref a0_shelves, .ref a0_tape, .ref a0_reader, .ref a0_refusals, .ref a0_bestPack])), (a0_tape, .inr (4, [.ref a0_tape_bytes, .int 0, .int (-1), .int 0, .int 0, .int 0])), (a0_now, .inr (0, [.ref a0_now_counts, .ref a0_now_roads, .ref a0_now_bridges, .ref a0_now_waggons, .ref a0_now_parts, .ref a0_now_settings, .ref a0_now_trip, .int 0])), (a0_now_counts, .inl (E 0, 4, .inl (fun _ => 0))), (a0_now_settings, .inl (E 0, 3, .inl (upd (upd (fun _ => 0) 0 100) 1 2))), (a0_reader, .inr (2, [.ref a0_tape, .ref a0_now, .ref a0_reader_countsBefore, .ref a0_reader_settingsBefore])), (a0_reader_countsBefore, .inl (E 0, 4, .inl (fun _ => 0))), (a0_reader_settingsBefore, .inl (E 0, 3, .inl (fun _ => 0))), (a0_refusals, .inl (E 0, 5, .inl (fun _ => 0)))] sz) (fun _ => [])) (va_A [(a0, .inr (6, [.ref a0_now, .ref a0_kept, .int 0, .ref a0_ways, .ref a0_shelves, .ref a0_tape, .ref a0_reader, .ref a0_refusals, .ref a0_bestPack])), (a0_tape, .inr (4, [.ref a0_tape_bytes, .int 0, .int (-1), .int 0, .int 0, .int 0])), (a0_now, .inr (0, [.ref a0_now_counts, .ref a0_now_roads, .ref a0_now_bridges, .ref a0_now_waggons, .ref a0_now_parts, .ref a0_now_settings, .ref a0_now_trip, .int 0])), (a0_now_counts, .inl (E 0, 4, .inl (fun _ => 0))), (a0_now_settings, .inl (E 0, 3, .inl (upd (upd (fun _ => 0) 0 100) 1 2))), (a0_reader, .inr (2, [.ref a0_tape, .ref a0_now, .ref a0_reader_countsBefore, .ref a0_reader_settingsBefore])), (a0_reader_countsBefore, .inl (E 0, 4, .inl (fun _ => 0))), (a0_reader_settingsBefore, .inl (E 0, 3, .inl (fun _ => 0))), (a0_refusals, .inl (E 0, 5, .inl (fun _ => 0)))] sz)) 0 0 (va_A [(a0, .inr (6, [.ref a0_now, .ref a0_kept, .int 0, .ref a0_ways, .ref a0_shelves, .ref a0_tape, .ref a0_reader, .ref a0_refusals, .ref a0_bestPack])), (a0_tape, .inr (4, [.ref a0_tape_bytes, .int 0, .int (-1), .int 0, .int 0, .int 0])), (a0_now, .inr (0, [.ref a0_now_counts, .ref a0_now_roads, .ref a0_now_bridges, .ref a0_now_waggons, .ref a0_now_parts, .ref a0_now_settings, .ref a0_now_trip, .int 0])), (a0_now_counts, .inl (E 0, 4, .inl (fun _ => 0))), (a0_now_settings, .inl (E 0, 3, .inl (upd (upd (fun _ => 0) 0 100) 1 2))), (a0_reader, .inr (2, [.ref a0_tape, .ref a0_now, .ref a0_reader_countsBefore, .ref a0_reader_settingsBefore])), (a0_reader_countsBefore, .inl (E 0, 4, .inl (fun _ => 0))), (a0_reader_settingsBefore, .inl (E 0, 3, .inl (fun _ => 0))), (a0_refusals, .inl (E 0, 5, .inl (fun _ => 0)))] sz) := by
  refine Met.ofW (cc := cX6_land) (maxL := 2) (ret := (some .int)) (by decide) rfl ?_
  intro p e s m args below meth c s₁ B hml hv
  obtain ⟨rfl, hsz, hP, hK, hD0, hG⟩ := hv
  have hx := B.exec
  have hb := B.bytes
  have hr := B.returns
  have hts := atoms_spec (ws := (oh_w yX6_land cX6_land 2 (some .int))) B.pre
  have htg : ∀ w ∈ oh_t, w.before _ s = true := fun w h => hts w (List.mem_cons_of_mem _ h)
  have hown : s.vm.findClass RX6 = some m.cls := findClass_of_methodNamed B.named
  have hlocks := B.notSynchronized
  subst hsz
  have hD := hD0.self (sz := s.heap.size)
  generalize hAe : va_A [(a0, .inr (6, [.ref a0_now, .ref a0_kept, .int 0, .ref a0_ways, .ref a0_shelves, .ref a0_tape, .ref a0_reader, .ref a0_refusals, .ref a0_bestPack])), (a0_tape, .inr (4, [.ref a0_tape_bytes, .int 0, .int (-1), .int 0, .int 0, .int 0])), (a0_now, .inr (0, [.ref a0_now_counts, .ref a0_now_roads, .ref a0_now_bridges, .ref a0_now_waggons, .ref a0_now_parts, .ref a0_now_settings, .ref a0_now_trip, .int 0])), (a0_now_counts, .inl (E 0, 4, .inl (fun _ => 0))), (a0_now_settings, .inl (E 0, 3, .inl (upd (upd (fun _ => 0) 0 100) 1 2))), (a0_reader, .inr (2, [.ref a0_tape, .ref a0_now, .ref a0_reader_countsBefore, .ref a0_reader_settingsBefore])), (a0_reader_countsBefore, .inl (E 0, 4, .inl (fun _ => 0))), (a0_reader_settingsBefore, .inl (E 0, 3, .inl (fun _ => 0))), (a0_refusals, .inl (E 0, 5, .inl (fun _ => 0)))] s.heap.size = A at hD hG ⊢
  have hA : ∀ q : Nat, s.heap.size ≤ q → A q := fun q h => by rw [← hAe]; exact Or.inr h
  have hS : va_S A s.heap s.heap [] := va_S.rf
  have hP : va_P D vwCl [(a0, .inr (6, [.ref a0_now, .ref a0_kept, .int 0, .ref a0_ways, .ref a0_shelves, .ref a0_tape, .ref a0_reader, .ref a0_refusals, .ref a0_bestPack])), (a0_tape, .inr (4, [.ref a0_tape_bytes, .int 0, .int (-1), .int 0, .int 0, .int 0])), (a0_now, .inr (0, [.ref a0_now_counts, .ref a0_now_roads, .ref a0_now_bridges, .ref a0_now_waggons, .ref a0_now_parts, .ref a0_now_settings, .ref a0_now_trip, .int 0])), (a0_now_counts, .inl (E 0, 4, .inl (fun _ => 0))), (a0_now_settings, .inl (E 0, 3, .inl (upd (upd (fun _ => 0) 0 100) 1 2))), (a0_reader, .inr (2, [.ref a0_tape, .ref a0_now, .ref a0_reader_countsBefore, .ref a0_reader_settingsBefore])), (a0_reader_countsBefore, .inl (E 0, 4, .inl (fun _ => 0))), (a0_reader_settingsBefore, .inl (E 0, 3, .inl (fun _ => 0))), (a0_refusals, .inl (E 0, 5, .inl (fun _ => 0)))] s.heap := hP
  have hl := lv_entry ([.ref a0]) (n := 2) (Nat.le_of_ble_eq_true rfl)
  rw [lg_entry_eq]
  generalize (lg_sl ([.ref a0]) ++ List.replicate (2 - (lg_sl ([.ref a0])).length) Slot.unset).toArray = ls at hl ⊢
  have hl : lv_has ls 2 [(0, .ref a0)] := hl
  refine lv_aload_n hx hb dX6_land_0 rfl (lv_at hl 0 rfl) ?_
  refine va_get (D := D) (ci := 6) (v := .ref a0_reader) (C := RX6) (T := TX6) (N := 9) hx hb htg ig_6 hown hK hP 0 rfl rfl 6 (by decide) (htg _ q_264) (fun _ h9 => h9) rfl dX6_land_1 ?_
  refine oh_mV (As := []) (rest := []) (wr := [(a0, .inr (6, [.ref a0_now, .ref a0_kept, .int 0, .ref a0_ways, .ref a0_shelves, .ref a0_tape, .ref a0_reader, .ref a0_refusals, .ref a0_bestPack])), (a0_refusals, .inl (E 0, 5, .inl (fun _ => 0)))]) ⟨hx, hb, hml, hown, htg⟩ (c_X2_read l D E G s.heap.size a0_reader a0_tape a0_now a0_reader_countsBefore a0_reader_settingsBefore a0_tape_bytes a0_now_counts a0_now_roads a0_now_bridges a0_now_waggons a0_now_parts a0_now_settings a0_now_trip) (cwV 0 htg (oh_gV q_499 q_500 q_501 q_72 q_502) rfl rfl rfl pdVX2_read ⟨Nat.le_of_ble_eq_true rfl, Nat.le_of_ble_eq_true rfl⟩) hK hP hD hG hS hA [5, 1, 2, 3, 4, 6, 7] [0, 8] rfl rfl (by decide) (by decide) (by decide) (va_recv hK hP (ci := 2) (q0 := 5) rfl rfl) rfl hl.1 rfl (Nat.le_of_ble_eq_true rfl) dX6_land_4 ⟨Nat.le_of_ble_eq_true rfl, Nat.le_of_ble_eq_true rfl⟩ (fun r_1 u H locs hw hP hD hS => ?_)
  subst hw
  have hP : va_P D vwCl [(a0, .inr (6, [.ref a0_now, .ref a0_kept, .int 0, .ref a0_ways, .ref a0_shelves, .ref a0_tape, .ref a0_reader, .ref a0_refusals, .ref a0_bestPack])), (a0_refusals, .inl (E 0, 5, .inl (fun _ => 0))), (a0_tape, .inr (4, [.ref a0_tape_bytes, .int 0, .int 0, .int 0, .int 0, .int 0]))] H := hP
  have hD : va_D A [(a0, .inr (6, [.ref a0_now, .ref a0_kept, .int 0, .ref a0_ways, .ref a0_shelves, .ref a0_tape, .ref a0_reader, .ref a0_refusals, .ref a0_bestPack])), (a0_refusals, .inl (E 0, 5, .inl (fun _ => 0))), (a0_tape, .inr (4, [.ref a0_tape_bytes, .int 0, .int 0, .int 0, .int 0, .int 0]))] := hD
  refine W.widen (k := 0) (n := 0) (Nat.le_refl _) (Nat.le_refl _) ?_
  refine lv_istore_n (lv' := [(1, .int 1), (0, .ref a0)]) hx hb dX6_land_7 rfl hl (by decide) rfl (fun ls hl => ?_)
  refine lv_aload_n hx hb dX6_land_8 rfl (lv_at hl 1 rfl) ?_
  refine va_get (D := D) (ci := 6) (v := .ref a0_tape) (C := RX6) (T := TX6) (N := 9) hx hb htg ig_6 hown hK hP 0 rfl rfl 5 (by decide) (htg _ q_263) (fun _ h9 => h9) rfl dX6_land_9 ?_
  refine lv_iconst (v := 0) hx hb dX6_land_12 (by decide) ?_
  refine va_put (D := D) (ci := 4) (v := .int 0) (ty := .int) (C := RX4) (T := TX4) (N := 6) hx hb htg ig_4 tyX4 tyX4_ok nmX4 hown hK hP hD hS 2 rfl rfl 1 (by decide) (htg _ q_219) (fun _ h9 => h9) rfl (by decide +kernel) rfl rfl (Nat.le_of_ble_eq_true rfl) dX6_land_13 (fun H locs hP hD hS => ?_)
  have hP : va_P D vwCl [(a0, .inr (6, [.ref a0_now, .ref a0_kept, .int 0, .ref a0_ways, .ref a0_shelves, .ref a0_tape, .ref a0_reader, .ref a0_refusals, .ref a0_bestPack])), (a0_refusals, .inl (E 0, 5, .inl (fun _ => 0))), (a0_tape, .inr (4, [.ref a0_tape_bytes, .int 0, .int 0, .int 0, .int 0, .int 0]))] H := hP
  have hD : va_D A [(a0, .inr (6, [.ref a0_now, .ref a0_kept, .int 0, .ref a0_ways, .ref a0_shelves, .ref a0_tape, .ref a0_reader, .ref a0_refusals, .ref a0_bestPack])), (a0_refusals, .inl (E 0, 5, .inl (fun _ => 0))), (a0_tape, .inr (4, [.ref a0_tape_bytes, .int 0, .int 0, .int 0, .int 0, .int 0]))] := hD
  refine lv_aload_n hx hb dX6_land_16 rfl (lv_at hl 1 rfl) ?_
  refine va_get (D := D) (ci := 6) (v := .ref a0_tape) (C := RX6) (T := TX6) (N := 9) hx hb htg ig_6 hown hK hP 0 rfl rfl 5 (by decide) (htg _ q_263) (fun _ h9 => h9) rfl dX6_land_17 ?_
  refine va_get (D := D) (ci := 4) (v := .int 0) (C := RX4) (T := TX4) (N := 6) hx hb htg ig_4 hown hK hP 2 rfl rfl 2 (by decide) (htg _ q_221) (fun _ h9 => h9) rfl dX6_land_20 ?_
  refine lv_iconst (v := (-1)) hx hb dX6_land_23 (by decide) ?_
  refine lv_icmp_eq (tgt := 45) hx hb dX6_land_24 (by decide) (fun c => absurd c (show ¬ ((0 : Int32) = (-1)) from by decide)) (fun _ => ?_)
  refine lv_aload_n hx hb dX6_land_27 rfl (lv_at hl 1 rfl) ?_
  refine lv_bipush (v := (-2)) hx hb dX6_land_28 (by decide) ?_
  refine oh_mV (As := [.int (-2)]) (rest := []) (wr := [(a0_tape, .inr (4, [.ref a0_tape_bytes, .int 0, .int 0, .int 0, .int 0, .int 0]))]) ⟨hx, hb, hml, hown, htg⟩ (c_X6_refuse l D E G H.size a0 (-2) a0_now a0_kept a0_ways a0_shelves a0_tape a0_reader a0_refusals a0_bestPack) (cwV 1 htg (oh_gV q_296 q_298 q_0 q_66 q_299) rfl rfl rfl pdVX6_refuse ⟨Nat.le_of_ble_eq_true rfl, Nat.le_of_ble_eq_true rfl⟩) hK hP hD hG hS hA [0, 1] [2] rfl rfl (by decide) (by decide) (by decide) (va_recv hK hP (ci := 6) (q0 := 0) rfl rfl) rfl hl.1 rfl (Nat.le_of_ble_eq_true rfl) dX6_land_30 ⟨Nat.le_of_ble_eq_true rfl, Nat.le_of_ble_eq_true rfl⟩ (fun r_2 u H locs hw hP hD hS => ?_)
  subst hw
  have hP : va_P D vwCl [(a0_tape, .inr (4, [.ref a0_tape_bytes, .int 0, .int 0, .int 0, .int 0, .int 0])), (a0, .inr (6, [.ref a0_now, .ref a0_kept, .int 0, .ref a0_ways, .ref a0_shelves, .ref a0_tape, .ref a0_reader, .ref a0_refusals, .ref a0_bestPack]))] H := hP
  have hD : va_D A [(a0_tape, .inr (4, [.ref a0_tape_bytes, .int 0, .int 0, .int 0, .int 0, .int 0])), (a0, .inr (6, [.ref a0_now, .ref a0_kept, .int 0, .ref a0_ways, .ref a0_shelves, .ref a0_tape, .ref a0_reader, .ref a0_refusals, .ref a0_bestPack]))] := hD
  refine W.widen (k := 0) (n := 0) (Nat.le_refl _) (Nat.le_refl _) ?_
  refine lv_pop hx hb dX6_land_33 rfl ?_
  refine lv_bipush (v := (-20)) hx hb dX6_land_34 (by decide) ?_
  refine lv_aload_n hx hb dX6_land_36 rfl (lv_at hl 1 rfl) ?_
  refine va_get (D := D) (ci := 6) (v := .ref a0_tape) (C := RX6) (T := TX6) (N := 9) hx hb htg ig_6 hown hK hP 1 rfl rfl 5 (by decide) (htg _ q_263) (fun _ h9 => h9) rfl dX6_land_37 ?_
  refine va_get (D := D) (ci := 4) (v := .int 0) (C := RX4) (T := TX4) (N := 6) hx hb htg ig_4 hown hK hP 0 rfl rfl 2 (by decide) (htg _ q_221) (fun _ h9 => h9) rfl dX6_land_40 ?_
  refine lv_isub hx hb dX6_land_43 ?_
  refine oh_nrm (v := (-20)) (by decide) ?_
  refine W.widen (k := 0) (n := 0) (Nat.le_of_ble_eq_true rfl) (Nat.le_of_ble_eq_true rfl) ?_
  exact W.iret (v := (-20)) hx hb hr (fun t ht hW => ⟨⟨(-20), (), rfl, rfl, ⟨by rw [ht]; exact hP.sub [] rfl, hD.sub [] (by decide) rfl⟩⟩, hS.F ht⟩) hS.2.2 dX6_land_44
end
