set_option maxHeartbeats 4000000 in
set_option maxRecDepth 100000 in
/-- what the launch gives -/
theorem lw_env {p : Program} {s : State} {m : MethodId} {meth : Method} {c : Code} {b L : Nat} {xs : Nat → Int32} (C0 : lw_At p s m meth c b L xs) : ∃ (D : va_G) (E G : Nat → _), va_K D vwCl (oh_ty E) s ∧ oh_G G (fun q => s.heap.size ≤ q) s := by
  obtain ⟨hx, hb, hr, hml, hown, hts, hX, hbl, hlocks, hgv⟩ := C0
  have htg : ∀ w ∈ oh_t, w.before #[Value.ref b] s = true := fun w h => hts w (List.mem_filter.mp h).1
  have hs := flat_of_before _ hgv
  have hnA : ∀ a : Nat, a < s.heap.size → ¬ (fun q : Nat => s.heap.size ≤ q) a := fun a h => Nat.not_le.mpr h
  obtain ⟨c0, iS0, hKn0⟩ := u_known (C := RX0) (T := TX0) (N := 8) (n := 8) htg ig_0 (htg _ q_90)
  obtain ⟨c1, iS1, hKn1⟩ := u_known (C := RX1) (T := TX1) (N := 5) (n := 5) htg ig_1 (htg _ q_140)
  obtain ⟨c2, iS2, hKn2⟩ := u_known (C := RX2) (T := TX2) (N := 4) (n := 4) htg ig_2 (htg _ q_239)
  obtain ⟨c3, iS3, hKn3⟩ := u_known (C := RX3) (T := TX3) (N := 3) (n := 3) htg ig_3 (htg _ q_193)
  obtain ⟨c4, iS4, hKn4⟩ := u_known (C := RX4) (T := TX4) (N := 6) (n := 6) htg ig_4 (htg _ q_212)
  obtain ⟨c5, iS5, hKn5⟩ := u_known (C := RX5) (T := TX5) (N := 7) (n := 7) htg ig_5 (htg _ q_134)
  obtain ⟨c6, iS6, hKn6⟩ := u_known (C := RX6) (T := TX6) (N := 9) (n := 9) htg ig_6 (htg _ q_82)
  obtain ⟨c7, iS7, hKn7⟩ := u_known (C := RX7) (T := TX7) (N := 29) (n := 29) htg ig_7 (htg _ q_964)
  obtain ⟨e0, k0, m0, f0, g0, h0⟩ := Cond.arrayClass_spec (htg _ q_132)
  obtain ⟨e1, k1, m1, f1, g1, h1⟩ := Cond.arrayClass_spec (htg _ q_210)
  have ao2 : (Cond.arrayOver (.array .int)).before #[Value.ref b] s = true := hts _ (List.mem_of_getElem? (i := 972) (by decide +kernel))
  obtain ⟨m2, e2, k2, n2, o2, g2, h2, f2⟩ := Jvm.Stand.arrayOver_specB ao2
  have ao3 : (Cond.arrayOver (.array .long)).before #[Value.ref b] s = true := hts _ (List.mem_of_getElem? (i := 970) (by decide +kernel))
  obtain ⟨m3, e3, k3, n3, o3, g3, h3, f3⟩ := Jvm.Stand.arrayOver_specB ao3
  obtain ⟨t0, v0, T0⟩ := va_Tof (tm := (Term.static "OneHeavyLoad" "ROOM" "[I")) (ty := .int) (N := 4) (f := fun j => .int (oh_room j)) (A := fun q => s.heap.size ≤ q) (by decide) (hs _ (by decide +kernel)) (va_eqt (z := 4) (hs _ (by decide +kernel))) (by intro j hj; rcases (show j = 0 ∨ j = 1 ∨ j = 2 ∨ j = 3 by omega) with rfl | rfl | rfl | rfl <;> exact va_eqt (hs _ (by decide +kernel))) hnA
  have Z0 := va_Zref (A := fun q => s.heap.size ≤ q) (hts _ (List.mem_of_getElem? (i := 96) (by decide +kernel))) (htg _ q_66) v0 hnA
  obtain ⟨t1, v1, T1⟩ := va_Tof (tm := (Term.static "OneHeavyLoad" "MAX_SETTING" "[I")) (ty := .int) (N := 3) (f := fun j => .int (oh_maxs j)) (A := fun q => s.heap.size ≤ q) (by decide) (hs _ (by decide +kernel)) (va_eqt (z := 3) (hs _ (by decide +kernel))) (by intro j hj; rcases (show j = 0 ∨ j = 1 ∨ j = 2 by omega) with rfl | rfl | rfl <;> exact va_eqt (hs _ (by decide +kernel))) hnA
  have Z1 := va_Zref (A := fun q => s.heap.size ≤ q) (hts _ (List.mem_of_getElem? (i := 469) (by decide +kernel))) (htg _ q_66) v1 hnA
  obtain ⟨t2, v2, T2⟩ := va_Tof (tm := (Term.static "OneHeavyLoad" "TAKEN_FOR" "[I")) (ty := .int) (N := 6) (f := fun j => .int (oh_tak j)) (A := fun q => s.heap.size ≤ q) (by decide) (hs _ (by decide +kernel)) (va_eqt (z := 6) (hs _ (by decide +kernel))) (by intro j hj; rcases (show j = 0 ∨ j = 1 ∨ j = 2 ∨ j = 3 ∨ j = 4 ∨ j = 5 by omega) with rfl | rfl | rfl | rfl | rfl | rfl <;> exact va_eqt (hs _ (by decide +kernel))) hnA
  have Z2 := va_Zref (A := fun q => s.heap.size ≤ q) (hts _ (List.mem_of_getElem? (i := 383) (by decide +kernel))) (htg _ q_66) v2 hnA
  obtain ⟨K0, V0, S0, u0⟩ := lw_st0 hs hnA
  obtain ⟨K1, V1, S1, u1⟩ := lw_st1 hs hnA
  obtain ⟨K2, V2, S2, u2⟩ := lw_st2 hs hnA
  obtain ⟨K3, V3, S3, u3⟩ := lw_st3 hs hnA
  obtain ⟨K4, V4, S4, u4⟩ := lw_st4 hs hnA
  obtain ⟨K5, V5, S5, u5⟩ := lw_st5 hs hnA
  obtain ⟨K6, V6, S6, u6⟩ := lw_st6 hs hnA
  obtain ⟨K7, V7, S7, u7⟩ := lw_st7 hs hnA
  obtain ⟨K8, V8, S8, u8⟩ := lw_st8 hs hnA
  obtain ⟨K9, V9, S9, u9⟩ := lw_st9 hs hnA
  obtain ⟨K10, V10, S10, u10⟩ := lw_st10 hs hnA
  obtain ⟨K11, V11, S11, u11⟩ := lw_st11 hs hnA
  obtain ⟨K12, V12, S12, u12⟩ := lw_st12 hs hnA
  obtain ⟨K13, V13, S13, u13⟩ := lw_st13 hs hnA
  obtain ⟨K14, V14, S14, u14⟩ := lw_st14 hs hnA
  obtain ⟨K15, V15, S15, u15⟩ := lw_st15 hs hnA
  obtain ⟨K16, V16, S16, u16⟩ := lw_st16 hs hnA
  obtain ⟨K17, V17, S17, u17⟩ := lw_st17 hs hnA
  obtain ⟨K18, V18, S18, u18⟩ := lw_st18 hs hnA
  obtain ⟨K19, V19, S19, u19⟩ := lw_st19 hs hnA
  obtain ⟨K20, V20, S20, u20⟩ := lw_st20 hs hnA
  obtain ⟨K21, V21, S21, u21⟩ := lw_st21 hs hnA
  obtain ⟨K22, V22, S22, u22⟩ := lw_st22 hs hnA
  obtain ⟨K23, V23, S23, u23⟩ := lw_st23 hs hnA
  obtain ⟨K24, V24, S24, u24⟩ := lw_st24 hs hnA
  obtain ⟨K25, V25, S25, u25⟩ := lw_st25 hs hnA
  obtain ⟨K26, V26, S26, u26⟩ := lw_st26 hs hnA
  obtain ⟨K27, V27, S27, u27⟩ := lw_st27 hs hnA
  obtain ⟨K28, V28, S28, u28⟩ := lw_st28 hs hnA
  obtain ⟨K29, V29, S29, u29⟩ := lw_st29 hs hnA
  obtain ⟨K30, V30, S30, u30⟩ := lw_st30 hs hnA
  obtain ⟨K31, V31, S31, u31⟩ := lw_st31 hs hnA
  obtain ⟨K32, V32, S32, u32⟩ := lw_st32 hs hnA
  obtain ⟨K33, V33, S33, u33⟩ := lw_st33 hs hnA
  have Zc := va_Zof (C := "java/lang/String") (n := "COMPACT_STRINGS") (d := "Z") (v := .int 1) (A := fun q => s.heap.size ≤ q) (hts _ (List.mem_of_getElem? (i := 530) (by decide +kernel))) (htg _ q_75) (va_eqt (hs _ (by decide +kernel))) hnA
  have Zq := va_Zqof (C := "jdk/internal/util/Preconditions") (n := "SIOOBE_FORMATTER") (d := "Ljava/util/function/BiFunction;") (A := fun q => s.heap.size ≤ q) (hts _ (List.mem_of_getElem? (i := 546) (by decide +kernel))) (htg _ q_77) (hs _ (by decide +kernel)) hnA
  refine ⟨(fun k => if k = 0 then c0 else if k = 1 then c1 else if k = 2 then c2 else if k = 3 then c3 else if k = 4 then c4 else if k = 5 then c5 else if k = 6 then c6 else c7, fun k => if k = 0 then iS0 else if k = 1 then iS1 else if k = 2 then iS2 else if k = 3 then iS3 else if k = 4 then iS4 else if k = 5 then iS5 else if k = 6 then iS6 else iS7), (fun i => if i = 0 then e0 else if i = 1 then e1 else if i = 2 then e2 else e3), (fun i => ([t0, t1, t2, K0, K1, K2, K3, K4, K5, K6, K7, K8, K9, K10, K11, K12, K13, K14, K15, K16, K17, K18, K19, K20, K21, K22, K23, K24, K25, K26, K27, K28, K29, K30, K31, K32, K33, 0, 0, 0, V0, V1, V2, V3, V4, V5, V6, V7, V8, V9, V10, V11, V12, V13, V14, V15, V16, V17, V18, V19, V20, V21, V22, V23, V24, V25, V26, V27, V28, V29, V30, V31, V32, V33] : List Nat).getD i 0), ⟨?_, ?_⟩, ?_⟩
  · intro k q hq
    match k, hq with
    | 0, hq => cases hq; exact hKn0
    | 1, hq => cases hq; exact hKn1
    | 2, hq => cases hq; exact hKn2
    | 3, hq => cases hq; exact hKn3
    | 4, hq => cases hq; exact hKn4
    | 5, hq => cases hq; exact hKn5
    | 6, hq => cases hq; exact hKn6
    | 7, hq => cases hq; exact hKn7
    | k + 8, hq => simp [vwCl] at hq
  · intro k q hq
    match k, hq with
    | 0, hq => cases hq; exact ⟨fun N z => ⟨fun q hq => (by cases hq), k0, g0, m0, h0⟩, f0⟩
    | 1, hq => cases hq; exact ⟨fun N z => ⟨fun q hq => (by cases hq), k1, g1, m1, h1⟩, f1⟩
    | 2, hq => cases hq; exact ⟨fun N z => ⟨fun q hq => (by cases hq), k2, g2, m2, h2⟩, f2⟩
    | 3, hq => cases hq; exact ⟨fun N z => ⟨fun q hq => (by cases hq), k3, g3, m3, h3⟩, f3⟩
    | k + 4, hq => simp [oh_ty] at hq
  · refine ⟨List.forall_mem_cons.mpr ⟨va_Nw.of rfl (hts _ (List.mem_of_getElem? (i := 141) (by decide +kernel))), List.forall_mem_cons.mpr ⟨va_Nw.of rfl (hts _ (List.mem_of_getElem? (i := 357) (by decide +kernel))), List.forall_mem_cons.mpr ⟨va_Nw.of rfl (hts _ (List.mem_of_getElem? (i := 595) (by decide +kernel))), List.forall_mem_cons.mpr ⟨va_Nw.of rfl (hts _ (List.mem_of_getElem? (i := 716) (by decide +kernel))), List.forall_mem_cons.mpr ⟨va_Nw.of rfl (hts _ (List.mem_of_getElem? (i := 727) (by decide +kernel))), List.forall_mem_cons.mpr ⟨va_Nw.of rfl (hts _ (List.mem_of_getElem? (i := 771) (by decide +kernel))), fun _ h => absurd h List.not_mem_nil⟩⟩⟩⟩⟩⟩, List.forall_mem_cons.mpr ⟨va_Nw.of rfl (hts _ (List.mem_of_getElem? (i := 95) (by decide +kernel))), List.forall_mem_cons.mpr ⟨va_Nw.of rfl (hts _ (List.mem_of_getElem? (i := 166) (by decide +kernel))), List.forall_mem_cons.mpr ⟨va_Nw.of rfl (hts _ (List.mem_of_getElem? (i := 244) (by decide +kernel))), List.forall_mem_cons.mpr ⟨va_Nw.of rfl (hts _ (List.mem_of_getElem? (i := 382) (by decide +kernel))), List.forall_mem_cons.mpr ⟨va_Nw.of rfl (hts _ (List.mem_of_getElem? (i := 652) (by decide +kernel))), fun _ h => absurd h List.not_mem_nil⟩⟩⟩⟩⟩, List.forall_mem_cons.mpr ⟨vk_R.of (hts _ (List.mem_of_getElem? (i := 516) (by decide +kernel))) u0, List.forall_mem_cons.mpr ⟨vk_R.of (hts _ (List.mem_of_getElem? (i := 598) (by decide +kernel))) u1, List.forall_mem_cons.mpr ⟨vk_R.of (hts _ (List.mem_of_getElem? (i := 608) (by decide +kernel))) u2, List.forall_mem_cons.mpr ⟨vk_R.of (hts _ (List.mem_of_getElem? (i := 617) (by decide +kernel))) u3, List.forall_mem_cons.mpr ⟨vk_R.of (hts _ (List.mem_of_getElem? (i := 618) (by decide +kernel))) u4, List.forall_mem_cons.mpr ⟨vk_R.of (hts _ (List.mem_of_getElem? (i := 621) (by decide +kernel))) u5, List.forall_mem_cons.mpr ⟨vk_R.of (hts _ (List.mem_of_getElem? (i := 626) (by decide +kernel))) u6, List.forall_mem_cons.mpr ⟨vk_R.of (hts _ (List.mem_of_getElem? (i := 627) (by decide +kernel))) u7, List.forall_mem_cons.mpr ⟨vk_R.of (hts _ (List.mem_of_getElem? (i := 628) (by decide +kernel))) u8, List.forall_mem_cons.mpr ⟨vk_R.of (hts _ (List.mem_of_getElem? (i := 629) (by decide +kernel))) u9, List.forall_mem_cons.mpr ⟨vk_R.of (hts _ (List.mem_of_getElem? (i := 630) (by decide +kernel))) u10, List.forall_mem_cons.mpr ⟨vk_R.of (hts _ (List.mem_of_getElem? (i := 633) (by decide +kernel))) u11, List.forall_mem_cons.mpr ⟨vk_R.of (hts _ (List.mem_of_getElem? (i := 638) (by decide +kernel))) u12, List.forall_mem_cons.mpr ⟨vk_R.of (hts _ (List.mem_of_getElem? (i := 639) (by decide +kernel))) u13, List.forall_mem_cons.mpr ⟨vk_R.of (hts _ (List.mem_of_getElem? (i := 641) (by decide +kernel))) u14, List.forall_mem_cons.mpr ⟨vk_R.of (hts _ (List.mem_of_getElem? (i := 647) (by decide +kernel))) u15, List.forall_mem_cons.mpr ⟨vk_R.of (hts _ (List.mem_of_getElem? (i := 653) (by decide +kernel))) u16, List.forall_mem_cons.mpr ⟨vk_R.of (hts _ (List.mem_of_getElem? (i := 1214) (by decide +kernel))) u17, List.forall_mem_cons.mpr ⟨vk_R.of (hts _ (List.mem_of_getElem? (i := 1233) (by decide +kernel))) u18, List.forall_mem_cons.mpr ⟨vk_R.of (hts _ (List.mem_of_getElem? (i := 1238) (by decide +kernel))) u19, List.forall_mem_cons.mpr ⟨vk_R.of (hts _ (List.mem_of_getElem? (i := 1243) (by decide +kernel))) u20, List.forall_mem_cons.mpr ⟨vk_R.of (hts _ (List.mem_of_getElem? (i := 1244) (by decide +kernel))) u21, List.forall_mem_cons.mpr ⟨vk_R.of (hts _ (List.mem_of_getElem? (i := 1245) (by decide +kernel))) u22, List.forall_mem_cons.mpr ⟨vk_R.of (hts _ (List.mem_of_getElem? (i := 1250) (by decide +kernel))) u23, List.forall_mem_cons.mpr ⟨vk_R.of (hts _ (List.mem_of_getElem? (i := 1251) (by decide +kernel))) u24, List.forall_mem_cons.mpr ⟨vk_R.of (hts _ (List.mem_of_getElem? (i := 1252) (by decide +kernel))) u25, List.forall_mem_cons.mpr ⟨vk_R.of (hts _ (List.mem_of_getElem? (i := 1253) (by decide +kernel))) u26, List.forall_mem_cons.mpr ⟨vk_R.of (hts _ (List.mem_of_getElem? (i := 1254) (by decide +kernel))) u27, List.forall_mem_cons.mpr ⟨vk_R.of (hts _ (List.mem_of_getElem? (i := 1255) (by decide +kernel))) u28, List.forall_mem_cons.mpr ⟨vk_R.of (hts _ (List.mem_of_getElem? (i := 1256) (by decide +kernel))) u29, List.forall_mem_cons.mpr ⟨vk_R.of (hts _ (List.mem_of_getElem? (i := 1257) (by decide +kernel))) u30, List.forall_mem_cons.mpr ⟨vk_R.of (hts _ (List.mem_of_getElem? (i := 1258) (by decide +kernel))) u31, List.forall_mem_cons.mpr ⟨vk_R.of (hts _ (List.mem_of_getElem? (i := 1259) (by decide +kernel))) u32, List.forall_mem_cons.mpr ⟨vk_R.of (hts _ (List.mem_of_getElem? (i := 1260) (by decide +kernel))) u33, fun _ h => absurd h List.not_mem_nil⟩⟩⟩⟩⟩⟩⟩⟩⟩⟩⟩⟩⟩⟩⟩⟩⟩⟩⟩⟩⟩⟩⟩⟩⟩⟩⟩⟩⟩⟩⟩⟩⟩⟩, ⟨Z0, T0⟩, ⟨Z1, T1⟩, ⟨Z2, T2⟩, ao2, ao3, Zc, Zq, fun j hj => ?_⟩
    rcases (show j = 0 ∨ j = 1 ∨ j = 2 ∨ j = 3 ∨ j = 4 ∨ j = 5 ∨ j = 6 ∨ j = 7 ∨ j = 8 ∨ j = 9 ∨ j = 10 ∨ j = 11 ∨ j = 12 ∨ j = 13 ∨ j = 14 ∨ j = 15 ∨ j = 16 ∨ j = 17 ∨ j = 18 ∨ j = 19 ∨ j = 20 ∨ j = 21 ∨ j = 22 ∨ j = 23 ∨ j = 24 ∨ j = 25 ∨ j = 26 ∨ j = 27 ∨ j = 28 ∨ j = 29 ∨ j = 30 ∨ j = 31 ∨ j = 32 ∨ j = 33 by omega) with rfl | rfl | rfl | rfl | rfl | rfl | rfl | rfl | rfl | rfl | rfl | rfl | rfl | rfl | rfl | rfl | rfl | rfl | rfl | rfl | rfl | rfl | rfl | rfl | rfl | rfl | rfl | rfl | rfl | rfl | rfl | rfl | rfl | rfl
    · exact S0
    · exact S1
    · exact S2
    · exact S3
    · exact S4
    · exact S5
    · exact S6
    · exact S7
    · exact S8
    · exact S9
    · exact S10
    · exact S11
    · exact S12
    · exact S13
    · exact S14
    · exact S15
    · exact S16
    · exact S17
    · exact S18
    · exact S19
    · exact S20
    · exact S21
    · exact S22
    · exact S23
    · exact S24
    · exact S25
    · exact S26
    · exact S27
    · exact S28
    · exact S29
    · exact S30
    · exact S31
    · exact S32
    · exact S33
