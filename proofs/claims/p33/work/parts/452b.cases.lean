set_option maxHeartbeats 4000000 in
set_option maxRecDepth 100000 in
/-- the law at a call of judge -/
theorem lc_judge {p : Program} {e : Env} {s : State} {m : MethodId} {below : List Frame} {meth : Method} {c : Code} (l : Launch) {b L : Nat} {xs : Nat → Int32} (C0 : lw_At p s m meth c b L xs) (hL : L ≤ 4096) {D : va_G} {E : Nat → ClassId} {G : Nat → Nat} {A : Nat → Prop} (hAe : A = fun q => s.heap.size ≤ q) (hK : va_K D vwCl (oh_ty E) s) (hG : oh_G G A s) {a : Nat → Nat} {i : Nat} (hi : i + 8 ≤ L) {ma : Nat → Nat} {C M : Nat → va_E} {n cN sN : Nat} (hT : TyX a E C) (hTM : TyM ma E M) (hR : RelM M) (hkp : KEPT E n ma M) (ht1 : gi (C 5) 1 = gi (M 0) 7) (ht2 : gi (C 0) 2 = 0 ↔ n = 74) (ht3 : ga (C 32) = ga (M 7)) (htA : ∃ (A0 : LA) (T0 : TP), absX 10 C A0 ∧ absM M A0 ∧ okA A0 ∧ absTX 1 16 C T0 ∧ absTM M T0 ∧ ∃ (S0 : HZ) (Z0 : EZ), absHX C S0 ∧ absHM M S0 ∧ absEX C S0 Z0 ∧ absEM M S0 Z0) (htK : TIEK n C M) (hcN : cN ≤ 35 + n) (hsN : sN ≤ 1477 + 16 * n) {H : Heap} {locs : List Loc} (hP : va_P D vwCl (oh_W 35 a C ++ oh_W n ma M) H) (hD : va_D A (oh_W 35 a C ++ oh_W n ma M)) (hS : va_S A s.heap H locs) {ls : Array Slot} (hl : lv_has ls 4 [(3, .int (nI i)), (2, .ref (ma 0)), (1, .ref (a 0)), (0, .ref b)]) (kk : ∀ (ma : Nat → Nat) (C M : Nat → va_E) (n cN sN : Nat) (H : Heap) (locs : List Loc) (ls : Array Slot), TyX a E C → TyM ma E M → RelM M → KEPT E n ma M → gi (C 5) 1 = gi (M 0) 7 → (gi (C 0) 2 = 0 ↔ n = 74) → ga (C 32) = ga (M 7) → (∃ (A0 : LA) (T0 : TP), absX 10 C A0 ∧ absM M A0 ∧ okA A0 ∧ absTX 1 16 C T0 ∧ absTM M T0 ∧ ∃ (S0 : HZ) (Z0 : EZ), absHX C S0 ∧ absHM M S0 ∧ absEX C S0 Z0 ∧ absEM M S0 Z0) → TIEK n C M → cN ≤ 35 + n → sN ≤ 1477 + 16 * n → va_P D vwCl (oh_W 35 a C ++ oh_W n ma M) H → va_D A (oh_W 35 a C ++ oh_W n ma M) → va_S A s.heap H locs → lv_has ls 4 [(3, .int (nI i)), (2, .ref (ma 0)), (1, .ref (a 0)), (0, .ref b)] → W p l e room_1 s m #[Value.ref b] below meth c H locs cN sN (lw_Z below #[Value.ref b] s) (F0 m 2045 ls [])) : W p l e room_1 s m #[Value.ref b] below meth c H locs cN sN (lw_Z below #[Value.ref b] s) (F0 m 1500 ls []) := by
  obtain ⟨hx, hb, hr, hml, hown, hts, hX, hbl, hlocks, hgv⟩ := id C0
  have hown : s.vm.findClass RL = some m.cls := hown
  have htg : ∀ w ∈ oh_t, w.before _ s = true := fun w h => hts w (List.mem_filter.mp h).1
  have hA : ∀ q, s.heap.size ≤ q → A q := fun q h => by rw [hAe]; exact h
  have hbA : ¬ A b := by rw [hAe]; exact Nat.not_le.mpr hbl
  have hn := hkp.le.1
  have hn8 := hkp.le.2
  have ht10 := ht1
  have ht20 := ht2
  have ht30 := ht3
  obtain ⟨A0, T0, hAX, hAM, hok, hUX, hUM, S0, Z0, hSX, hSM, hEX, hEM⟩ := htA
  have hAX0 := hAX
  have hAM0 := hAM
  have htK0 := htK
  have hSX0 := hSX
  have hSM0 := hSM
  have hEX0 := hEX
  have hEM0 := hEM
  have hUX0 := hUX
  refine lv_aload_n hx hb dL_law_1500 rfl (lv_at hl 2 rfl) ?_
  refine lv_aload_n hx hb dL_law_1501 rfl (lv_at hl 3 rfl) ?_
  refine lv_iload_n hx hb dL_law_1502 rfl (lv_at hl 0 rfl) ?_
  refine lv_iconst (v := 1) hx hb dL_law_1503 (by decide) ?_
  refine lv_iadd hx hb dL_law_1504 ?_
  refine va_sld hx hb hX hbl hbA hS (lw_ix hi hL (rg_c (v := 1) (lo := 1) (hi := 1) (by decide)) (by decide)) dL_law_1505 ?_
  refine lv_aload_n hx hb dL_law_1506 rfl (lv_at hl 3 rfl) ?_
  refine lv_iload_n hx hb dL_law_1507 rfl (lv_at hl 0 rfl) ?_
  refine lv_iconst (v := 2) hx hb dL_law_1508 (by decide) ?_
  refine lv_iadd hx hb dL_law_1509 ?_
  refine va_sld hx hb hX hbl hbA hS (lw_ix hi hL (rg_c (v := 2) (lo := 2) (hi := 2) (by decide)) (by decide)) dL_law_1510 ?_
  refine lv_aload_n hx hb dL_law_1511 rfl (lv_at hl 3 rfl) ?_
  refine lv_iload_n hx hb dL_law_1512 rfl (lv_at hl 0 rfl) ?_
  refine lv_iconst (v := 3) hx hb dL_law_1513 (by decide) ?_
  refine lv_iadd hx hb dL_law_1514 ?_
  refine va_sld hx hb hX hbl hbA hS (lw_ix hi hL (rg_c (v := 3) (lo := 3) (hi := 3) (by decide)) (by decide)) dL_law_1515 ?_
  refine lv_aload_n hx hb dL_law_1516 rfl (lv_at hl 3 rfl) ?_
  refine lv_iload_n hx hb dL_law_1517 rfl (lv_at hl 0 rfl) ?_
  refine lv_iconst (v := 4) hx hb dL_law_1518 (by decide) ?_
  refine lv_iadd hx hb dL_law_1519 ?_
  refine va_sld hx hb hX hbl hbA hS (lw_ix hi hL (rg_c (v := 4) (lo := 4) (hi := 4) (by decide)) (by decide)) dL_law_1520 ?_
  refine lv_aload_n hx hb dL_law_1521 rfl (lv_at hl 3 rfl) ?_
  refine lv_iload_n hx hb dL_law_1522 rfl (lv_at hl 0 rfl) ?_
  refine lv_iconst (v := 5) hx hb dL_law_1523 (by decide) ?_
  refine lv_iadd hx hb dL_law_1524 ?_
  refine va_sld hx hb hX hbl hbA hS (lw_ix hi hL (rg_c (v := 5) (lo := 5) (hi := 5) (by decide)) (by decide)) dL_law_1525 ?_
  refine lw_cX (As := [.int (xs ((nI i) + 1).toNatClampNeg), .int (xs ((nI i) + 2).toNatClampNeg), .int (xs ((nI i) + 3).toNatClampNeg), .int (xs ((nI i) + 4).toNatClampNeg), .int (xs ((nI i) + 5).toNatClampNeg)]) (rest := []) ⟨hx, hb, hml, hown, htg⟩ (e_X6_judge l D E G _ a C hT (xs ((nI i) + 1).toNatClampNeg) (xs ((nI i) + 2).toNatClampNeg) (xs ((nI i) + 3).toNatClampNeg) (xs ((nI i) + 4).toNatClampNeg) (xs ((nI i) + 5).toNatClampNeg)) (cwV 5 htg (oh_gV q_826 q_827 q_828 q_66 q_829) rfl rfl rfl pdVX6_judge ⟨Nat.le_of_ble_eq_true rfl, Nat.le_of_ble_eq_true rfl⟩) hK hP hD hG hS hA (va_recv hK (oh_pre_P hP) (ci := 6) (q0 := 0) rfl (oh_wg (by decide) (sX_0 hT))) rfl hl.1 rfl (Nat.le_of_ble_eq_true rfl) dL_law_1526 ⟨show cN + 0 ≤ 600000 by omega, show sN + 0 ≤ 7302250 by omega⟩ (fun r_1 C_3 H locs hq_2 hP hD hS => ?_)
  obtain ⟨hT, f_4, hq_2⟩ := hq_2
  have ht1 : gi (C_3 5) 1 = gi (M 0) 7 := by rw [f_4.1 5 rfl (by decide)]; exact ht1
  have ht2 : gi (C_3 0) 2 = 0 ↔ n = 74 := by rw [show gi (C_3 0) 2 = gi (C 0) 2 from congrArg vi (f_4.2 2 (by decide))]; exact ht2
  have ht3 : ga (C_3 32) = ga (M 7) := Eq.trans (congrArg ga (f_4.1 32 rfl (by decide))) ht3
  have htK := htK.x (fr_all f_4 17 23 (by decide)) (f_4.1 2 rfl (by decide))
  have hAX : absX 10 C_3 A0 := absX_eq hAX (fun k k1 k2 => fr_all f_4 10 15 (by decide) k k1 (by omega))
  have hUX : absTX 1 16 C_3 T0 := absTX_eq hUX (congrArg (fun z => gi z 7) (f_4.1 1 rfl (by decide))) (f_4.1 16 rfl (by decide))
  have hEX := ex_eq hEX (f_4.1 31 rfl (by decide))
  have hSX : absHX C_3 S0 := hx_fr hSX (f_4.1 29 rfl (by decide)) (f_4.1 30 rfl (by decide))
  refine W.widen (k := cN) (n := sN) (Nat.le_refl _) (Nat.le_refl _) ?_
  refine lv_pop hx hb dL_law_1529 rfl ?_
  refine lv_aload_n hx hb dL_law_1530 rfl (lv_at hl 1 rfl) ?_
  refine lv_aload_n hx hb dL_law_1531 rfl (lv_at hl 3 rfl) ?_
  refine lv_iload_n hx hb dL_law_1532 rfl (lv_at hl 0 rfl) ?_
  refine lv_iconst (v := 1) hx hb dL_law_1533 (by decide) ?_
  refine lv_iadd hx hb dL_law_1534 ?_
  refine va_sld hx hb hX hbl hbA hS (lw_ix hi hL (rg_c (v := 1) (lo := 1) (hi := 1) (by decide)) (by decide)) dL_law_1535 ?_
  refine lv_aload_n hx hb dL_law_1536 rfl (lv_at hl 3 rfl) ?_
  refine lv_iload_n hx hb dL_law_1537 rfl (lv_at hl 0 rfl) ?_
  refine lv_iconst (v := 2) hx hb dL_law_1538 (by decide) ?_
  refine lv_iadd hx hb dL_law_1539 ?_
  refine va_sld hx hb hX hbl hbA hS (lw_ix hi hL (rg_c (v := 2) (lo := 2) (hi := 2) (by decide)) (by decide)) dL_law_1540 ?_
  refine lv_aload_n hx hb dL_law_1541 rfl (lv_at hl 3 rfl) ?_
  refine lv_iload_n hx hb dL_law_1542 rfl (lv_at hl 0 rfl) ?_
  refine lv_iconst (v := 3) hx hb dL_law_1543 (by decide) ?_
  refine lv_iadd hx hb dL_law_1544 ?_
  refine va_sld hx hb hX hbl hbA hS (lw_ix hi hL (rg_c (v := 3) (lo := 3) (hi := 3) (by decide)) (by decide)) dL_law_1545 ?_
  refine lv_aload_n hx hb dL_law_1546 rfl (lv_at hl 3 rfl) ?_
  refine lv_iload_n hx hb dL_law_1547 rfl (lv_at hl 0 rfl) ?_
  refine lv_iconst (v := 4) hx hb dL_law_1548 (by decide) ?_
  refine lv_iadd hx hb dL_law_1549 ?_
  refine va_sld hx hb hX hbl hbA hS (lw_ix hi hL (rg_c (v := 4) (lo := 4) (hi := 4) (by decide)) (by decide)) dL_law_1550 ?_
  refine lv_aload_n hx hb dL_law_1551 rfl (lv_at hl 3 rfl) ?_
  refine lv_iload_n hx hb dL_law_1552 rfl (lv_at hl 0 rfl) ?_
  refine lv_iconst (v := 5) hx hb dL_law_1553 (by decide) ?_
  refine lv_iadd hx hb dL_law_1554 ?_
  refine va_sld hx hb hX hbl hbA hS (lw_ix hi hL (rg_c (v := 5) (lo := 5) (hi := 5) (by decide)) (by decide)) dL_law_1555 ?_
  refine lw_cM (As := [.int (xs ((nI i) + 1).toNatClampNeg), .int (xs ((nI i) + 2).toNatClampNeg), .int (xs ((nI i) + 3).toNatClampNeg), .int (xs ((nI i) + 4).toNatClampNeg), .int (xs ((nI i) + 5).toNatClampNeg)]) (rest := []) ⟨hx, hb, hml, hown, htg⟩ (e_X7_judge l D E G _ ma M n hn hTM (xs ((nI i) + 1).toNatClampNeg) (xs ((nI i) + 2).toNatClampNeg) (xs ((nI i) + 3).toNatClampNeg) (xs ((nI i) + 4).toNatClampNeg) (xs ((nI i) + 5).toNatClampNeg) hR) (cwV 5 htg (oh_gV q_1369 q_1370 q_1371 q_73 q_1372) rfl rfl rfl pdVX7_judge ⟨Nat.le_of_ble_eq_true rfl, Nat.le_of_ble_eq_true rfl⟩) hK hP hD hG hS hA (va_recv hK (oh_suf_P hP) (ci := 7) (q0 := 0) rfl (oh_wg (by omega) (sM_0 hTM))) rfl hl.1 rfl (Nat.le_of_ble_eq_true rfl) dL_law_1556 ⟨show cN + 0 ≤ 600000 by omega, show sN + 0 ≤ 7302250 by omega⟩ (fun r_5 M_7 H locs hq_6 hP hD hS => ?_)
  have hTM0 := hTM
  obtain ⟨hTM, f_8, hR, hq_6⟩ := hq_6
  have hkp := kept_fr hkp f_8 (by decide)
  have ht1 : gi (C_3 5) 1 = gi (M_7 0) 7 := by rw [show gi (M_7 0) 7 = gi (M 0) 7 from congrArg vi (f_8.2 7 (by decide))]; exact ht1
  have ht3 : ga (C_3 32) = ga (M_7 7) := Eq.trans ht3 (congrArg ga (f_8.1 7 rfl (by decide))).symm
  have htK := htK.m f_8 (by decide)
  have hAM : absM M_7 A0 := absM_fr hAM hTM0 f_8 (by decide) (by decide) (by decide)
  have hUM : absTM M_7 T0 := absTM_eq hUM (f_8.1 14 rfl (by decide)) (congrArg vi (f_8.2 19 (by decide)))
  have hEM := em_eq hEM (fun s hs => f_8.1 (16 + s) (inR_out hs (by decide)) (by omega))
  have hSM : absHM M_7 S0 := hm_fr hSM (f_8.1 1 rfl (by decide)) (f_8.1 2 rfl (by decide)) (f_8.1 3 rfl (by decide)) (f_8.1 6 rfl (by decide))
  refine W.widen (k := cN) (n := sN) (Nat.le_refl _) (Nat.le_refl _) ?_
  refine lv_pop hx hb dL_law_1559 rfl ?_
  refine lv_goto (tgt := 2045) hx hb dL_law_1560 (by decide) ?_
  exact kk ma C_3 M_7 n (cN) (sN) H locs ls hT hTM hR hkp ht1 ht2 ht3 ⟨_, _, hAX, hAM, hok, hUX, hUM, _, _, hSX, hSM, hEX, hEM⟩ htK (by omega) (by omega) hP hD hS hl

set_option maxHeartbeats 4000000 in
set_option maxRecDepth 100000 in
/-- the law at a call of told -/
theorem lc_told {p : Program} {e : Env} {s : State} {m : MethodId} {below : List Frame} {meth : Method} {c : Code} (l : Launch) {b L : Nat} {xs : Nat → Int32} (C0 : lw_At p s m meth c b L xs) (hL : L ≤ 4096) {D : va_G} {E : Nat → ClassId} {G : Nat → Nat} {A : Nat → Prop} (hAe : A = fun q => s.heap.size ≤ q) (hK : va_K D vwCl (oh_ty E) s) (hG : oh_G G A s) {a : Nat → Nat} {i : Nat} (hi : i + 8 ≤ L) {ma : Nat → Nat} {C M : Nat → va_E} {n cN sN : Nat} (hT : TyX a E C) (hTM : TyM ma E M) (hR : RelM M) (hkp : KEPT E n ma M) (ht1 : gi (C 5) 1 = gi (M 0) 7) (ht2 : gi (C 0) 2 = 0 ↔ n = 74) (ht3 : ga (C 32) = ga (M 7)) (htA : ∃ (A0 : LA) (T0 : TP), absX 10 C A0 ∧ absM M A0 ∧ okA A0 ∧ absTX 1 16 C T0 ∧ absTM M T0 ∧ ∃ (S0 : HZ) (Z0 : EZ), absHX C S0 ∧ absHM M S0 ∧ absEX C S0 Z0 ∧ absEM M S0 Z0) (htK : TIEK n C M) (hcN : cN ≤ 35 + n) (hsN : sN ≤ 1477 + 16 * n) {H : Heap} {locs : List Loc} (hP : va_P D vwCl (oh_W 35 a C ++ oh_W n ma M) H) (hD : va_D A (oh_W 35 a C ++ oh_W n ma M)) (hS : va_S A s.heap H locs) {ls : Array Slot} (hl : lv_has ls 4 [(3, .int (nI i)), (2, .ref (ma 0)), (1, .ref (a 0)), (0, .ref b)]) (kk : ∀ (ma : Nat → Nat) (C M : Nat → va_E) (n cN sN : Nat) (H : Heap) (locs : List Loc) (ls : Array Slot), TyX a E C → TyM ma E M → RelM M → KEPT E n ma M → gi (C 5) 1 = gi (M 0) 7 → (gi (C 0) 2 = 0 ↔ n = 74) → ga (C 32) = ga (M 7) → (∃ (A0 : LA) (T0 : TP), absX 10 C A0 ∧ absM M A0 ∧ okA A0 ∧ absTX 1 16 C T0 ∧ absTM M T0 ∧ ∃ (S0 : HZ) (Z0 : EZ), absHX C S0 ∧ absHM M S0 ∧ absEX C S0 Z0 ∧ absEM M S0 Z0) → TIEK n C M → cN ≤ 35 + n → sN ≤ 1477 + 16 * n → va_P D vwCl (oh_W 35 a C ++ oh_W n ma M) H → va_D A (oh_W 35 a C ++ oh_W n ma M) → va_S A s.heap H locs → lv_has ls 4 [(3, .int (nI i)), (2, .ref (ma 0)), (1, .ref (a 0)), (0, .ref b)] → W p l e room_1 s m #[Value.ref b] below meth c H locs cN sN (lw_Z below #[Value.ref b] s) (F0 m 2045 ls [])) : W p l e room_1 s m #[Value.ref b] below meth c H locs cN sN (lw_Z below #[Value.ref b] s) (F0 m 1563 ls []) := by
  obtain ⟨hx, hb, hr, hml, hown, hts, hX, hbl, hlocks, hgv⟩ := id C0
  have hown : s.vm.findClass RL = some m.cls := hown
  have htg : ∀ w ∈ oh_t, w.before _ s = true := fun w h => hts w (List.mem_filter.mp h).1
  have hA : ∀ q, s.heap.size ≤ q → A q := fun q h => by rw [hAe]; exact h
  have hbA : ¬ A b := by rw [hAe]; exact Nat.not_le.mpr hbl
  have hn := hkp.le.1
  have hn8 := hkp.le.2
  have ht10 := ht1
  have ht20 := ht2
  have ht30 := ht3
  obtain ⟨A0, T0, hAX, hAM, hok, hUX, hUM, S0, Z0, hSX, hSM, hEX, hEM⟩ := htA
  have hAX0 := hAX
  have hAM0 := hAM
  have htK0 := htK
  have hSX0 := hSX
  have hSM0 := hSM
  have hEX0 := hEX
  have hEM0 := hEM
  have hUX0 := hUX
  refine lv_aload_n hx hb dL_law_1563 rfl (lv_at hl 2 rfl) ?_
  refine lv_aload_n hx hb dL_law_1564 rfl (lv_at hl 3 rfl) ?_
  refine lv_iload_n hx hb dL_law_1565 rfl (lv_at hl 0 rfl) ?_
  refine lv_iconst (v := 1) hx hb dL_law_1566 (by decide) ?_
  refine lv_iadd hx hb dL_law_1567 ?_
  refine va_sld hx hb hX hbl hbA hS (lw_ix hi hL (rg_c (v := 1) (lo := 1) (hi := 1) (by decide)) (by decide)) dL_law_1568 ?_
  refine lv_aload_n hx hb dL_law_1569 rfl (lv_at hl 3 rfl) ?_
  refine lv_iload_n hx hb dL_law_1570 rfl (lv_at hl 0 rfl) ?_
  refine lv_iconst (v := 2) hx hb dL_law_1571 (by decide) ?_
  refine lv_iadd hx hb dL_law_1572 ?_
  refine va_sld hx hb hX hbl hbA hS (lw_ix hi hL (rg_c (v := 2) (lo := 2) (hi := 2) (by decide)) (by decide)) dL_law_1573 ?_
  refine lv_aload_n hx hb dL_law_1574 rfl (lv_at hl 3 rfl) ?_
  refine lv_iload_n hx hb dL_law_1575 rfl (lv_at hl 0 rfl) ?_
  refine lv_iconst (v := 3) hx hb dL_law_1576 (by decide) ?_
  refine lv_iadd hx hb dL_law_1577 ?_
  refine va_sld hx hb hX hbl hbA hS (lw_ix hi hL (rg_c (v := 3) (lo := 3) (hi := 3) (by decide)) (by decide)) dL_law_1578 ?_
  refine lv_aload_n hx hb dL_law_1579 rfl (lv_at hl 3 rfl) ?_
  refine lv_iload_n hx hb dL_law_1580 rfl (lv_at hl 0 rfl) ?_
  refine lv_iconst (v := 4) hx hb dL_law_1581 (by decide) ?_
  refine lv_iadd hx hb dL_law_1582 ?_
  refine va_sld hx hb hX hbl hbA hS (lw_ix hi hL (rg_c (v := 4) (lo := 4) (hi := 4) (by decide)) (by decide)) dL_law_1583 ?_
  refine lv_aload_n hx hb dL_law_1584 rfl (lv_at hl 3 rfl) ?_
  refine lv_iload_n hx hb dL_law_1585 rfl (lv_at hl 0 rfl) ?_
  refine lv_iconst (v := 5) hx hb dL_law_1586 (by decide) ?_
  refine lv_iadd hx hb dL_law_1587 ?_
  refine va_sld hx hb hX hbl hbA hS (lw_ix hi hL (rg_c (v := 5) (lo := 5) (hi := 5) (by decide)) (by decide)) dL_law_1588 ?_
  refine lv_aload_n hx hb dL_law_1589 rfl (lv_at hl 3 rfl) ?_
  refine lv_iload_n hx hb dL_law_1590 rfl (lv_at hl 0 rfl) ?_
  refine lv_bipush (v := 6) hx hb dL_law_1591 (by decide) ?_
  refine lv_iadd hx hb dL_law_1593 ?_
  refine va_sld hx hb hX hbl hbA hS (lw_ix hi hL (rg_c (v := 6) (lo := 6) (hi := 6) (by decide)) (by decide)) dL_law_1594 ?_
  refine lw_cX (As := [.int (xs ((nI i) + 1).toNatClampNeg), .int (xs ((nI i) + 2).toNatClampNeg), .int (xs ((nI i) + 3).toNatClampNeg), .int (xs ((nI i) + 4).toNatClampNeg), .int (xs ((nI i) + 5).toNatClampNeg), .int (xs ((nI i) + 6).toNatClampNeg)]) (rest := []) ⟨hx, hb, hml, hown, htg⟩ (e_X6_told l D E G _ a C hT (xs ((nI i) + 1).toNatClampNeg) (xs ((nI i) + 2).toNatClampNeg) (xs ((nI i) + 3).toNatClampNeg) (xs ((nI i) + 4).toNatClampNeg) (xs ((nI i) + 5).toNatClampNeg) (xs ((nI i) + 6).toNatClampNeg)) (cwV 6 htg (oh_gV q_850 q_851 q_852 q_66 q_853) rfl rfl rfl pdVX6_told ⟨Nat.le_of_ble_eq_true rfl, Nat.le_of_ble_eq_true rfl⟩) hK hP hD hG hS hA (va_recv hK (oh_pre_P hP) (ci := 6) (q0 := 0) rfl (oh_wg (by decide) (sX_0 hT))) rfl hl.1 rfl (Nat.le_of_ble_eq_true rfl) dL_law_1595 ⟨show cN + 0 ≤ 600000 by omega, show sN + 0 ≤ 7302250 by omega⟩ (fun r_1 C_3 H locs hq_2 hP hD hS => ?_)
  obtain ⟨hT, f_4, hq_2⟩ := hq_2
  have ht1 : gi (C_3 5) 1 = gi (M 0) 7 := by rw [f_4.1 5 rfl (by decide)]; exact ht1
  have ht2 : gi (C_3 0) 2 = 0 ↔ n = 74 := by rw [show gi (C_3 0) 2 = gi (C 0) 2 from congrArg vi (f_4.2 2 (by decide))]; exact ht2
  have ht3 : ga (C_3 32) = ga (M 7) := Eq.trans (congrArg ga (f_4.1 32 rfl (by decide))) ht3
  have htK := htK.x (fr_all f_4 17 23 (by decide)) (f_4.1 2 rfl (by decide))
  have hAX : absX 10 C_3 A0 := absX_eq hAX (fun k k1 k2 => fr_all f_4 10 15 (by decide) k k1 (by omega))
  have hUX : absTX 1 16 C_3 T0 := absTX_eq hUX (congrArg (fun z => gi z 7) (f_4.1 1 rfl (by decide))) (f_4.1 16 rfl (by decide))
  have hEX := ex_eq hEX (f_4.1 31 rfl (by decide))
  have hSX : absHX C_3 S0 := hx_fr hSX (f_4.1 29 rfl (by decide)) (f_4.1 30 rfl (by decide))
  refine W.widen (k := cN) (n := sN) (Nat.le_refl _) (Nat.le_refl _) ?_
  refine lv_aload_n hx hb dL_law_1598 rfl (lv_at hl 1 rfl) ?_
  refine lv_aload_n hx hb dL_law_1599 rfl (lv_at hl 3 rfl) ?_
  refine lv_iload_n hx hb dL_law_1600 rfl (lv_at hl 0 rfl) ?_
  refine lv_iconst (v := 1) hx hb dL_law_1601 (by decide) ?_
  refine lv_iadd hx hb dL_law_1602 ?_
  refine va_sld hx hb hX hbl hbA hS (lw_ix hi hL (rg_c (v := 1) (lo := 1) (hi := 1) (by decide)) (by decide)) dL_law_1603 ?_
  refine lv_aload_n hx hb dL_law_1604 rfl (lv_at hl 3 rfl) ?_
  refine lv_iload_n hx hb dL_law_1605 rfl (lv_at hl 0 rfl) ?_
  refine lv_iconst (v := 2) hx hb dL_law_1606 (by decide) ?_
  refine lv_iadd hx hb dL_law_1607 ?_
  refine va_sld hx hb hX hbl hbA hS (lw_ix hi hL (rg_c (v := 2) (lo := 2) (hi := 2) (by decide)) (by decide)) dL_law_1608 ?_
  refine lv_aload_n hx hb dL_law_1609 rfl (lv_at hl 3 rfl) ?_
  refine lv_iload_n hx hb dL_law_1610 rfl (lv_at hl 0 rfl) ?_
  refine lv_iconst (v := 3) hx hb dL_law_1611 (by decide) ?_
  refine lv_iadd hx hb dL_law_1612 ?_
  refine va_sld hx hb hX hbl hbA hS (lw_ix hi hL (rg_c (v := 3) (lo := 3) (hi := 3) (by decide)) (by decide)) dL_law_1613 ?_
  refine lv_aload_n hx hb dL_law_1614 rfl (lv_at hl 3 rfl) ?_
  refine lv_iload_n hx hb dL_law_1615 rfl (lv_at hl 0 rfl) ?_
  refine lv_iconst (v := 4) hx hb dL_law_1616 (by decide) ?_
  refine lv_iadd hx hb dL_law_1617 ?_
  refine va_sld hx hb hX hbl hbA hS (lw_ix hi hL (rg_c (v := 4) (lo := 4) (hi := 4) (by decide)) (by decide)) dL_law_1618 ?_
  refine lv_aload_n hx hb dL_law_1619 rfl (lv_at hl 3 rfl) ?_
  refine lv_iload_n hx hb dL_law_1620 rfl (lv_at hl 0 rfl) ?_
  refine lv_iconst (v := 5) hx hb dL_law_1621 (by decide) ?_
  refine lv_iadd hx hb dL_law_1622 ?_
  refine va_sld hx hb hX hbl hbA hS (lw_ix hi hL (rg_c (v := 5) (lo := 5) (hi := 5) (by decide)) (by decide)) dL_law_1623 ?_
  refine lv_aload_n hx hb dL_law_1624 rfl (lv_at hl 3 rfl) ?_
  refine lv_iload_n hx hb dL_law_1625 rfl (lv_at hl 0 rfl) ?_
  refine lv_bipush (v := 6) hx hb dL_law_1626 (by decide) ?_
  refine lv_iadd hx hb dL_law_1628 ?_
  refine va_sld hx hb hX hbl hbA hS (lw_ix hi hL (rg_c (v := 6) (lo := 6) (hi := 6) (by decide)) (by decide)) dL_law_1629 ?_
  refine lw_cM (As := [.int (xs ((nI i) + 1).toNatClampNeg), .int (xs ((nI i) + 2).toNatClampNeg), .int (xs ((nI i) + 3).toNatClampNeg), .int (xs ((nI i) + 4).toNatClampNeg), .int (xs ((nI i) + 5).toNatClampNeg), .int (xs ((nI i) + 6).toNatClampNeg)]) (rest := [.int r_1]) ⟨hx, hb, hml, hown, htg⟩ (e_X7_told_ l D E G _ ma M n hn hTM (xs ((nI i) + 1).toNatClampNeg) (xs ((nI i) + 2).toNatClampNeg) (xs ((nI i) + 3).toNatClampNeg) (xs ((nI i) + 4).toNatClampNeg) (xs ((nI i) + 5).toNatClampNeg) (xs ((nI i) + 6).toNatClampNeg) hR) (cwV 6 htg (oh_gV q_1381 q_1382 q_1383 q_73 q_1384) rfl rfl rfl pdVX7_told_ ⟨Nat.le_of_ble_eq_true rfl, Nat.le_of_ble_eq_true rfl⟩) hK hP hD hG hS hA (va_recv hK (oh_suf_P hP) (ci := 7) (q0 := 0) rfl (oh_wg (by omega) (sM_0 hTM))) rfl hl.1 rfl (Nat.le_of_ble_eq_true rfl) dL_law_1630 ⟨show cN + 0 ≤ 600000 by omega, show sN + 0 ≤ 7302250 by omega⟩ (fun r_5 M_7 H locs hq_6 hP hD hS => ?_)
  have hTM0 := hTM
  obtain ⟨hTM, f_8, hR, hq_6⟩ := hq_6
  have hkp := kept_fr hkp f_8 (by decide)
  have ht1 : gi (C_3 5) 1 = gi (M_7 0) 7 := by rw [show gi (M_7 0) 7 = gi (M 0) 7 from congrArg vi (f_8.2 7 (by decide))]; exact ht1
  have ht3 : ga (C_3 32) = ga (M_7 7) := Eq.trans ht3 (congrArg ga (f_8.1 7 rfl (by decide))).symm
  have htK := htK.m f_8 (by decide)
  have hAM : absM M_7 A0 := absM_fr hAM hTM0 f_8 (by decide) (by decide) (by decide)
  have hUM : absTM M_7 T0 := absTM_eq hUM (f_8.1 14 rfl (by decide)) (congrArg vi (f_8.2 19 (by decide)))
  have hEM := em_eq hEM (fun s hs => f_8.1 (16 + s) (inR_out hs (by decide)) (by omega))
  have hSM : absHM M_7 S0 := hm_fr hSM (f_8.1 1 rfl (by decide)) (f_8.1 2 rfl (by decide)) (f_8.1 3 rfl (by decide)) (f_8.1 6 rfl (by decide))
  refine W.widen (k := cN) (n := sN) (Nat.le_refl _) (Nat.le_refl _) ?_
  refine lv_icmp_eq (tgt := 2045) hx hb dL_law_1633 (by decide) (fun _ => ?_) (fun c => absurd (show r_1 = r_5 from (Eq.trans (hq_2 A0 S0 Z0 hAX0 hok hSX0 hEX0) (Eq.symm (hq_6 A0 S0 Z0 hAM0 hok hSM0 hEM0)))) c)
  exact kk ma C_3 M_7 n (cN) (sN) H locs ls hT hTM hR hkp ht1 ht2 ht3 ⟨_, _, hAX, hAM, hok, hUX, hUM, _, _, hSX, hSM, hEX, hEM⟩ htK (by omega) (by omega) hP hD hS hl

set_option maxHeartbeats 4000000 in
set_option maxRecDepth 100000 in
/-- the law at a call of reach -/
theorem lc_reach {p : Program} {e : Env} {s : State} {m : MethodId} {below : List Frame} {meth : Method} {c : Code} (l : Launch) {b L : Nat} {xs : Nat → Int32} (C0 : lw_At p s m meth c b L xs) (hL : L ≤ 4096) {D : va_G} {E : Nat → ClassId} {G : Nat → Nat} {A : Nat → Prop} (hAe : A = fun q => s.heap.size ≤ q) (hK : va_K D vwCl (oh_ty E) s) (hG : oh_G G A s) {a : Nat → Nat} {i : Nat} (hi : i + 8 ≤ L) {ma : Nat → Nat} {C M : Nat → va_E} {n cN sN : Nat} (hT : TyX a E C) (hTM : TyM ma E M) (hR : RelM M) (hkp : KEPT E n ma M) (ht1 : gi (C 5) 1 = gi (M 0) 7) (ht2 : gi (C 0) 2 = 0 ↔ n = 74) (ht3 : ga (C 32) = ga (M 7)) (htA : ∃ (A0 : LA) (T0 : TP), absX 10 C A0 ∧ absM M A0 ∧ okA A0 ∧ absTX 1 16 C T0 ∧ absTM M T0 ∧ ∃ (S0 : HZ) (Z0 : EZ), absHX C S0 ∧ absHM M S0 ∧ absEX C S0 Z0 ∧ absEM M S0 Z0) (htK : TIEK n C M) (hcN : cN ≤ 35 + n) (hsN : sN ≤ 1477 + 16 * n) {H : Heap} {locs : List Loc} (hP : va_P D vwCl (oh_W 35 a C ++ oh_W n ma M) H) (hD : va_D A (oh_W 35 a C ++ oh_W n ma M)) (hS : va_S A s.heap H locs) {ls : Array Slot} (hl : lv_has ls 4 [(3, .int (nI i)), (2, .ref (ma 0)), (1, .ref (a 0)), (0, .ref b)]) (kk : ∀ (ma : Nat → Nat) (C M : Nat → va_E) (n cN sN : Nat) (H : Heap) (locs : List Loc) (ls : Array Slot), TyX a E C → TyM ma E M → RelM M → KEPT E n ma M → gi (C 5) 1 = gi (M 0) 7 → (gi (C 0) 2 = 0 ↔ n = 74) → ga (C 32) = ga (M 7) → (∃ (A0 : LA) (T0 : TP), absX 10 C A0 ∧ absM M A0 ∧ okA A0 ∧ absTX 1 16 C T0 ∧ absTM M T0 ∧ ∃ (S0 : HZ) (Z0 : EZ), absHX C S0 ∧ absHM M S0 ∧ absEX C S0 Z0 ∧ absEM M S0 Z0) → TIEK n C M → cN ≤ 35 + n → sN ≤ 1477 + 16 * n → va_P D vwCl (oh_W 35 a C ++ oh_W n ma M) H → va_D A (oh_W 35 a C ++ oh_W n ma M) → va_S A s.heap H locs → lv_has ls 4 [(3, .int (nI i)), (2, .ref (ma 0)), (1, .ref (a 0)), (0, .ref b)] → W p l e room_1 s m #[Value.ref b] below meth c H locs cN sN (lw_Z below #[Value.ref b] s) (F0 m 2045 ls [])) : W p l e room_1 s m #[Value.ref b] below meth c H locs cN sN (lw_Z below #[Value.ref b] s) (F0 m 1638 ls []) := by
  obtain ⟨hx, hb, hr, hml, hown, hts, hX, hbl, hlocks, hgv⟩ := id C0
  have hown : s.vm.findClass RL = some m.cls := hown
  have htg : ∀ w ∈ oh_t, w.before _ s = true := fun w h => hts w (List.mem_filter.mp h).1
  have hA : ∀ q, s.heap.size ≤ q → A q := fun q h => by rw [hAe]; exact h
  have hbA : ¬ A b := by rw [hAe]; exact Nat.not_le.mpr hbl
  have hn := hkp.le.1
  have hn8 := hkp.le.2
  have ht10 := ht1
  have ht20 := ht2
  have ht30 := ht3
  obtain ⟨A0, T0, hAX, hAM, hok, hUX, hUM, S0, Z0, hSX, hSM, hEX, hEM⟩ := htA
  have hAX0 := hAX
  have hAM0 := hAM
  have htK0 := htK
  have hSX0 := hSX
  have hSM0 := hSM
  have hEX0 := hEX
  have hEM0 := hEM
  have hUX0 := hUX
  refine lv_aload_n hx hb dL_law_1638 rfl (lv_at hl 2 rfl) ?_
  refine lv_aload_n hx hb dL_law_1639 rfl (lv_at hl 3 rfl) ?_
  refine lv_iload_n hx hb dL_law_1640 rfl (lv_at hl 0 rfl) ?_
  refine lv_iconst (v := 1) hx hb dL_law_1641 (by decide) ?_
  refine lv_iadd hx hb dL_law_1642 ?_
  refine va_sld hx hb hX hbl hbA hS (lw_ix hi hL (rg_c (v := 1) (lo := 1) (hi := 1) (by decide)) (by decide)) dL_law_1643 ?_
  refine lv_aload_n hx hb dL_law_1644 rfl (lv_at hl 3 rfl) ?_
  refine lv_iload_n hx hb dL_law_1645 rfl (lv_at hl 0 rfl) ?_
  refine lv_iconst (v := 2) hx hb dL_law_1646 (by decide) ?_
  refine lv_iadd hx hb dL_law_1647 ?_
  refine va_sld hx hb hX hbl hbA hS (lw_ix hi hL (rg_c (v := 2) (lo := 2) (hi := 2) (by decide)) (by decide)) dL_law_1648 ?_
  refine lv_aload_n hx hb dL_law_1649 rfl (lv_at hl 3 rfl) ?_
  refine lv_iload_n hx hb dL_law_1650 rfl (lv_at hl 0 rfl) ?_
  refine lv_iconst (v := 3) hx hb dL_law_1651 (by decide) ?_
  refine lv_iadd hx hb dL_law_1652 ?_
  refine va_sld hx hb hX hbl hbA hS (lw_ix hi hL (rg_c (v := 3) (lo := 3) (hi := 3) (by decide)) (by decide)) dL_law_1653 ?_
  refine lw_cX (As := [.int (xs ((nI i) + 1).toNatClampNeg), .int (xs ((nI i) + 2).toNatClampNeg), .int (xs ((nI i) + 3).toNatClampNeg)]) (rest := []) ⟨hx, hb, hml, hown, htg⟩ (e_X6_reach l D E G _ a C hT (xs ((nI i) + 1).toNatClampNeg) (xs ((nI i) + 2).toNatClampNeg) (xs ((nI i) + 3).toNatClampNeg)) (cwV 3 htg (oh_gV q_860 q_861 q_862 q_66 q_863) rfl rfl rfl pdVX6_reach ⟨Nat.le_of_ble_eq_true rfl, Nat.le_of_ble_eq_true rfl⟩) hK hP hD hG hS hA (va_recv hK (oh_pre_P hP) (ci := 6) (q0 := 0) rfl (oh_wg (by decide) (sX_0 hT))) rfl hl.1 rfl (Nat.le_of_ble_eq_true rfl) dL_law_1654 ⟨show cN + 0 ≤ 600000 by omega, show sN + 0 ≤ 7302250 by omega⟩ (fun r_1 C_3 H locs hq_2 hP hD hS => ?_)
  obtain ⟨hT, f_4, hq_2⟩ := hq_2
  have ht1 : gi (C_3 5) 1 = gi (M 0) 7 := by rw [f_4.1 5 rfl (by decide)]; exact ht1
  have ht2 : gi (C_3 0) 2 = 0 ↔ n = 74 := by rw [show gi (C_3 0) 2 = gi (C 0) 2 from congrArg vi (f_4.2 2 (by decide))]; exact ht2
  have ht3 : ga (C_3 32) = ga (M 7) := Eq.trans (congrArg ga (f_4.1 32 rfl (by decide))) ht3
  have htK := htK.x (fr_all f_4 17 23 (by decide)) (f_4.1 2 rfl (by decide))
  have hX_5 := hq_2 A0 hAX0 hok
  have hAX : absX 10 C_3 A0 := absX_eq hAX (fun k k1 k2 => fr_all f_4 10 15 (by decide) k k1 (by omega))
  have hUX : absTX 1 16 C_3 T0 := absTX_eq hUX (congrArg (fun z => gi z 7) (f_4.1 1 rfl (by decide))) (f_4.1 16 rfl (by decide))
  have hEX := ex_eq hEX (f_4.1 31 rfl (by decide))
  have hSX : absHX C_3 S0 := hx_fr hSX (f_4.1 29 rfl (by decide)) (f_4.1 30 rfl (by decide))
  refine W.widen (k := cN) (n := sN) (Nat.le_refl _) (Nat.le_refl _) ?_
  refine lv_pop hx hb dL_law_1657 rfl ?_
  refine lv_aload_n hx hb dL_law_1658 rfl (lv_at hl 1 rfl) ?_
  refine lv_aload_n hx hb dL_law_1659 rfl (lv_at hl 3 rfl) ?_
  refine lv_iload_n hx hb dL_law_1660 rfl (lv_at hl 0 rfl) ?_
  refine lv_iconst (v := 1) hx hb dL_law_1661 (by decide) ?_
  refine lv_iadd hx hb dL_law_1662 ?_
  refine va_sld hx hb hX hbl hbA hS (lw_ix hi hL (rg_c (v := 1) (lo := 1) (hi := 1) (by decide)) (by decide)) dL_law_1663 ?_
  refine lv_aload_n hx hb dL_law_1664 rfl (lv_at hl 3 rfl) ?_
  refine lv_iload_n hx hb dL_law_1665 rfl (lv_at hl 0 rfl) ?_
  refine lv_iconst (v := 2) hx hb dL_law_1666 (by decide) ?_
  refine lv_iadd hx hb dL_law_1667 ?_
  refine va_sld hx hb hX hbl hbA hS (lw_ix hi hL (rg_c (v := 2) (lo := 2) (hi := 2) (by decide)) (by decide)) dL_law_1668 ?_
  refine lv_aload_n hx hb dL_law_1669 rfl (lv_at hl 3 rfl) ?_
  refine lv_iload_n hx hb dL_law_1670 rfl (lv_at hl 0 rfl) ?_
  refine lv_iconst (v := 3) hx hb dL_law_1671 (by decide) ?_
  refine lv_iadd hx hb dL_law_1672 ?_
  refine va_sld hx hb hX hbl hbA hS (lw_ix hi hL (rg_c (v := 3) (lo := 3) (hi := 3) (by decide)) (by decide)) dL_law_1673 ?_
  refine lw_cM (As := [.int (xs ((nI i) + 1).toNatClampNeg), .int (xs ((nI i) + 2).toNatClampNeg), .int (xs ((nI i) + 3).toNatClampNeg)]) (rest := []) ⟨hx, hb, hml, hown, htg⟩ (e_X7_reach l D E G _ ma M n hn hTM (xs ((nI i) + 1).toNatClampNeg) (xs ((nI i) + 2).toNatClampNeg) (xs ((nI i) + 3).toNatClampNeg) hR) (cwV 3 htg (oh_gV q_1389 q_1390 q_1391 q_73 q_1392) rfl rfl rfl pdVX7_reach ⟨Nat.le_of_ble_eq_true rfl, Nat.le_of_ble_eq_true rfl⟩) hK hP hD hG hS hA (va_recv hK (oh_suf_P hP) (ci := 7) (q0 := 0) rfl (oh_wg (by omega) (sM_0 hTM))) rfl hl.1 rfl (Nat.le_of_ble_eq_true rfl) dL_law_1674 ⟨show cN + 0 ≤ 600000 by omega, show sN + 0 ≤ 7302250 by omega⟩ (fun r_6 M_8 H locs hq_7 hP hD hS => ?_)
  have hTM0 := hTM
  obtain ⟨hTM, f_9, hR, hq_7⟩ := hq_7
  have hkp := kept_fr hkp f_9 (by decide)
  have ht1 : gi (C_3 5) 1 = gi (M_8 0) 7 := by rw [show gi (M_8 0) 7 = gi (M 0) 7 from congrArg vi (f_9.2 7 (by decide))]; exact ht1
  have ht3 : ga (C_3 32) = ga (M_8 7) := Eq.trans ht3 (congrArg ga (f_9.1 7 rfl (by decide))).symm
  have htK := htK.m f_9 (by decide)
  have hM_10 := hq_7 A0 hAM0 hok
  have hAM : absM M_8 A0 := absM_fr hAM hTM0 f_9 (by decide) (by decide) (by decide)
  have hUM : absTM M_8 T0 := absTM_eq hUM (f_9.1 14 rfl (by decide)) (congrArg vi (f_9.2 19 (by decide)))
  have hEM := em_eq hEM (fun s hs => f_9.1 (16 + s) (inR_out hs (by decide)) (by omega))
  have hSM : absHM M_8 S0 := hm_fr hSM (f_9.1 1 rfl (by decide)) (f_9.1 2 rfl (by decide)) (f_9.1 3 rfl (by decide)) (f_9.1 6 rfl (by decide))
  refine W.widen (k := cN) (n := sN) (Nat.le_refl _) (Nat.le_refl _) ?_
  refine lv_pop hx hb dL_law_1677 rfl ?_
  refine lv_goto (tgt := 2045) hx hb dL_law_1678 (by decide) ?_
  exact kk ma C_3 M_8 n (cN) (sN) H locs ls hT hTM hR hkp ht1 ht2 ht3 ⟨_, _, hAX, hAM, hok, hUX, hUM, _, _, hSX, hSM, hEX, hEM⟩ htK (by omega) (by omega) hP hD hS hl

set_option maxHeartbeats 4000000 in
set_option maxRecDepth 100000 in
/-- the law at a call of hang -/
theorem lc_hang {p : Program} {e : Env} {s : State} {m : MethodId} {below : List Frame} {meth : Method} {c : Code} (l : Launch) {b L : Nat} {xs : Nat → Int32} (C0 : lw_At p s m meth c b L xs) (hL : L ≤ 4096) {D : va_G} {E : Nat → ClassId} {G : Nat → Nat} {A : Nat → Prop} (hAe : A = fun q => s.heap.size ≤ q) (hK : va_K D vwCl (oh_ty E) s) (hG : oh_G G A s) {a : Nat → Nat} {i : Nat} (hi : i + 8 ≤ L) {ma : Nat → Nat} {C M : Nat → va_E} {n cN sN : Nat} (hT : TyX a E C) (hTM : TyM ma E M) (hR : RelM M) (hkp : KEPT E n ma M) (ht1 : gi (C 5) 1 = gi (M 0) 7) (ht2 : gi (C 0) 2 = 0 ↔ n = 74) (ht3 : ga (C 32) = ga (M 7)) (htA : ∃ (A0 : LA) (T0 : TP), absX 10 C A0 ∧ absM M A0 ∧ okA A0 ∧ absTX 1 16 C T0 ∧ absTM M T0 ∧ ∃ (S0 : HZ) (Z0 : EZ), absHX C S0 ∧ absHM M S0 ∧ absEX C S0 Z0 ∧ absEM M S0 Z0) (htK : TIEK n C M) (hcN : cN ≤ 35 + n) (hsN : sN ≤ 1477 + 16 * n) {H : Heap} {locs : List Loc} (hP : va_P D vwCl (oh_W 35 a C ++ oh_W n ma M) H) (hD : va_D A (oh_W 35 a C ++ oh_W n ma M)) (hS : va_S A s.heap H locs) {ls : Array Slot} (hl : lv_has ls 4 [(3, .int (nI i)), (2, .ref (ma 0)), (1, .ref (a 0)), (0, .ref b)]) (kk : ∀ (ma : Nat → Nat) (C M : Nat → va_E) (n cN sN : Nat) (H : Heap) (locs : List Loc) (ls : Array Slot), TyX a E C → TyM ma E M → RelM M → KEPT E n ma M → gi (C 5) 1 = gi (M 0) 7 → (gi (C 0) 2 = 0 ↔ n = 74) → ga (C 32) = ga (M 7) → (∃ (A0 : LA) (T0 : TP), absX 10 C A0 ∧ absM M A0 ∧ okA A0 ∧ absTX 1 16 C T0 ∧ absTM M T0 ∧ ∃ (S0 : HZ) (Z0 : EZ), absHX C S0 ∧ absHM M S0 ∧ absEX C S0 Z0 ∧ absEM M S0 Z0) → TIEK n C M → cN ≤ 35 + n → sN ≤ 1477 + 16 * n → va_P D vwCl (oh_W 35 a C ++ oh_W n ma M) H → va_D A (oh_W 35 a C ++ oh_W n ma M) → va_S A s.heap H locs → lv_has ls 4 [(3, .int (nI i)), (2, .ref (ma 0)), (1, .ref (a 0)), (0, .ref b)] → W p l e room_1 s m #[Value.ref b] below meth c H locs cN sN (lw_Z below #[Value.ref b] s) (F0 m 2045 ls [])) : W p l e room_1 s m #[Value.ref b] below meth c H locs cN sN (lw_Z below #[Value.ref b] s) (F0 m 1681 ls []) := by
  obtain ⟨hx, hb, hr, hml, hown, hts, hX, hbl, hlocks, hgv⟩ := id C0
  have hown : s.vm.findClass RL = some m.cls := hown
  have htg : ∀ w ∈ oh_t, w.before _ s = true := fun w h => hts w (List.mem_filter.mp h).1
  have hA : ∀ q, s.heap.size ≤ q → A q := fun q h => by rw [hAe]; exact h
  have hbA : ¬ A b := by rw [hAe]; exact Nat.not_le.mpr hbl
  have hn := hkp.le.1
  have hn8 := hkp.le.2
  have ht10 := ht1
  have ht20 := ht2
  have ht30 := ht3
  obtain ⟨A0, T0, hAX, hAM, hok, hUX, hUM, S0, Z0, hSX, hSM, hEX, hEM⟩ := htA
  have hAX0 := hAX
  have hAM0 := hAM
  have htK0 := htK
  have hSX0 := hSX
  have hSM0 := hSM
  have hEX0 := hEX
  have hEM0 := hEM
  have hUX0 := hUX
  refine lv_aload_n hx hb dL_law_1681 rfl (lv_at hl 2 rfl) ?_
  refine lv_aload_n hx hb dL_law_1682 rfl (lv_at hl 3 rfl) ?_
  refine lv_iload_n hx hb dL_law_1683 rfl (lv_at hl 0 rfl) ?_
  refine lv_iconst (v := 1) hx hb dL_law_1684 (by decide) ?_
  refine lv_iadd hx hb dL_law_1685 ?_
  refine va_sld hx hb hX hbl hbA hS (lw_ix hi hL (rg_c (v := 1) (lo := 1) (hi := 1) (by decide)) (by decide)) dL_law_1686 ?_
  refine lv_aload_n hx hb dL_law_1687 rfl (lv_at hl 3 rfl) ?_
  refine lv_iload_n hx hb dL_law_1688 rfl (lv_at hl 0 rfl) ?_
  refine lv_iconst (v := 2) hx hb dL_law_1689 (by decide) ?_
  refine lv_iadd hx hb dL_law_1690 ?_
  refine va_sld hx hb hX hbl hbA hS (lw_ix hi hL (rg_c (v := 2) (lo := 2) (hi := 2) (by decide)) (by decide)) dL_law_1691 ?_
  refine lv_aload_n hx hb dL_law_1692 rfl (lv_at hl 3 rfl) ?_
  refine lv_iload_n hx hb dL_law_1693 rfl (lv_at hl 0 rfl) ?_
  refine lv_iconst (v := 3) hx hb dL_law_1694 (by decide) ?_
  refine lv_iadd hx hb dL_law_1695 ?_
  refine va_sld hx hb hX hbl hbA hS (lw_ix hi hL (rg_c (v := 3) (lo := 3) (hi := 3) (by decide)) (by decide)) dL_law_1696 ?_
  refine lv_aload_n hx hb dL_law_1697 rfl (lv_at hl 3 rfl) ?_
  refine lv_iload_n hx hb dL_law_1698 rfl (lv_at hl 0 rfl) ?_
  refine lv_iconst (v := 4) hx hb dL_law_1699 (by decide) ?_
  refine lv_iadd hx hb dL_law_1700 ?_
  refine va_sld hx hb hX hbl hbA hS (lw_ix hi hL (rg_c (v := 4) (lo := 4) (hi := 4) (by decide)) (by decide)) dL_law_1701 ?_
  refine lw_cX (As := [.int (xs ((nI i) + 1).toNatClampNeg), .int (xs ((nI i) + 2).toNatClampNeg), .int (xs ((nI i) + 3).toNatClampNeg), .int (xs ((nI i) + 4).toNatClampNeg)]) (rest := []) ⟨hx, hb, hml, hown, htg⟩ (e_X6_hang l D E G _ a C hT (xs ((nI i) + 1).toNatClampNeg) (xs ((nI i) + 2).toNatClampNeg) (xs ((nI i) + 3).toNatClampNeg) (xs ((nI i) + 4).toNatClampNeg)) (cwV 4 htg (oh_gV q_868 q_869 q_870 q_66 q_871) rfl rfl rfl pdVX6_hang ⟨Nat.le_of_ble_eq_true rfl, Nat.le_of_ble_eq_true rfl⟩) hK hP hD hG hS hA (va_recv hK (oh_pre_P hP) (ci := 6) (q0 := 0) rfl (oh_wg (by decide) (sX_0 hT))) rfl hl.1 rfl (Nat.le_of_ble_eq_true rfl) dL_law_1702 ⟨show cN + 0 ≤ 600000 by omega, show sN + 0 ≤ 7302250 by omega⟩ (fun r_1 C_3 H locs hq_2 hP hD hS => ?_)
  obtain ⟨hT, f_4, hq_2⟩ := hq_2
  have ht1 : gi (C_3 5) 1 = gi (M 0) 7 := by rw [f_4.1 5 rfl (by decide)]; exact ht1
  have ht2 : gi (C_3 0) 2 = 0 ↔ n = 74 := by rw [show gi (C_3 0) 2 = gi (C 0) 2 from congrArg vi (f_4.2 2 (by decide))]; exact ht2
  have ht3 : ga (C_3 32) = ga (M 7) := Eq.trans (congrArg ga (f_4.1 32 rfl (by decide))) ht3
  have htK := htK.x (fr_all f_4 17 23 (by decide)) (f_4.1 2 rfl (by decide))
  have hAX : absX 10 C_3 A0 := absX_g1 12 hAX f_4 hq_2 (by decide)
  have hUX : absTX 1 16 C_3 T0 := absTX_eq hUX (congrArg (fun z => gi z 7) (f_4.1 1 rfl (by decide))) (f_4.1 16 rfl (by decide))
  have hEX := ex_eq hEX (f_4.1 31 rfl (by decide))
  have hSX : absHX C_3 S0 := hx_fr hSX (f_4.1 29 rfl (by decide)) (f_4.1 30 rfl (by decide))
  refine W.widen (k := cN) (n := sN) (Nat.le_refl _) (Nat.le_refl _) ?_
  refine lv_pop hx hb dL_law_1705 rfl ?_
  refine lv_aload_n hx hb dL_law_1706 rfl (lv_at hl 1 rfl) ?_
  refine lv_aload_n hx hb dL_law_1707 rfl (lv_at hl 3 rfl) ?_
  refine lv_iload_n hx hb dL_law_1708 rfl (lv_at hl 0 rfl) ?_
  refine lv_iconst (v := 1) hx hb dL_law_1709 (by decide) ?_
  refine lv_iadd hx hb dL_law_1710 ?_
  refine va_sld hx hb hX hbl hbA hS (lw_ix hi hL (rg_c (v := 1) (lo := 1) (hi := 1) (by decide)) (by decide)) dL_law_1711 ?_
  refine lv_aload_n hx hb dL_law_1712 rfl (lv_at hl 3 rfl) ?_
  refine lv_iload_n hx hb dL_law_1713 rfl (lv_at hl 0 rfl) ?_
  refine lv_iconst (v := 2) hx hb dL_law_1714 (by decide) ?_
  refine lv_iadd hx hb dL_law_1715 ?_
  refine va_sld hx hb hX hbl hbA hS (lw_ix hi hL (rg_c (v := 2) (lo := 2) (hi := 2) (by decide)) (by decide)) dL_law_1716 ?_
  refine lv_aload_n hx hb dL_law_1717 rfl (lv_at hl 3 rfl) ?_
  refine lv_iload_n hx hb dL_law_1718 rfl (lv_at hl 0 rfl) ?_
  refine lv_iconst (v := 3) hx hb dL_law_1719 (by decide) ?_
  refine lv_iadd hx hb dL_law_1720 ?_
  refine va_sld hx hb hX hbl hbA hS (lw_ix hi hL (rg_c (v := 3) (lo := 3) (hi := 3) (by decide)) (by decide)) dL_law_1721 ?_
  refine lv_aload_n hx hb dL_law_1722 rfl (lv_at hl 3 rfl) ?_
  refine lv_iload_n hx hb dL_law_1723 rfl (lv_at hl 0 rfl) ?_
  refine lv_iconst (v := 4) hx hb dL_law_1724 (by decide) ?_
  refine lv_iadd hx hb dL_law_1725 ?_
  refine va_sld hx hb hX hbl hbA hS (lw_ix hi hL (rg_c (v := 4) (lo := 4) (hi := 4) (by decide)) (by decide)) dL_law_1726 ?_
  refine lw_cM (As := [.int (xs ((nI i) + 1).toNatClampNeg), .int (xs ((nI i) + 2).toNatClampNeg), .int (xs ((nI i) + 3).toNatClampNeg), .int (xs ((nI i) + 4).toNatClampNeg)]) (rest := []) ⟨hx, hb, hml, hown, htg⟩ (e_X7_hang l D E G _ ma M n hn hTM (xs ((nI i) + 1).toNatClampNeg) (xs ((nI i) + 2).toNatClampNeg) (xs ((nI i) + 3).toNatClampNeg) (xs ((nI i) + 4).toNatClampNeg) hR) (cwV 4 htg (oh_gV q_1393 q_1394 q_1395 q_73 q_1396) rfl rfl rfl pdVX7_hang ⟨Nat.le_of_ble_eq_true rfl, Nat.le_of_ble_eq_true rfl⟩) hK hP hD hG hS hA (va_recv hK (oh_suf_P hP) (ci := 7) (q0 := 0) rfl (oh_wg (by omega) (sM_0 hTM))) rfl hl.1 rfl (Nat.le_of_ble_eq_true rfl) dL_law_1727 ⟨show cN + 0 ≤ 600000 by omega, show sN + 0 ≤ 7302250 by omega⟩ (fun r_5 M_7 H locs hq_6 hP hD hS => ?_)
  have hTM0 := hTM
  obtain ⟨hTM, f_8, hR, hq_6⟩ := hq_6
  have hkp := kept_fr hkp f_8 (by decide)
  have ht1 : gi (C_3 5) 1 = gi (M_7 0) 7 := by rw [show gi (M_7 0) 7 = gi (M 0) 7 from congrArg vi (f_8.2 7 (by decide))]; exact ht1
  have ht3 : ga (C_3 32) = ga (M_7 7) := Eq.trans ht3 (congrArg ga (f_8.1 7 rfl (by decide))).symm
  have htK := htK.m f_8 (by decide)
  have hAM := hq_6 A0 hAM
  have hUM : absTM M_7 T0 := absTM_eq hUM (f_8.1 14 rfl (by decide)) (congrArg vi (f_8.2 19 (by decide)))
  have hEM := em_eq hEM (fun s hs => f_8.1 (16 + s) (inR_out hs (by decide)) (by omega))
  have hSM : absHM M_7 S0 := hm_fr hSM (f_8.1 1 rfl (by decide)) (f_8.1 2 rfl (by decide)) (f_8.1 3 rfl (by decide)) (f_8.1 6 rfl (by decide))
  refine W.widen (k := cN) (n := sN) (Nat.le_refl _) (Nat.le_refl _) ?_
  refine lv_pop hx hb dL_law_1730 rfl ?_
  refine lv_goto (tgt := 2045) hx hb dL_law_1731 (by decide) ?_
  exact kk ma C_3 M_7 n (cN) (sN) H locs ls hT hTM hR hkp ht1 ht2 ht3 ⟨_, _, hAX, hAM, hok, hUX, hUM, _, _, hSX, hSM, hEX, hEM⟩ htK (by omega) (by omega) hP hD hS hl

set_option maxHeartbeats 4000000 in
set_option maxRecDepth 100000 in
/-- the law at a call of fewest -/
theorem lc_fewest {p : Program} {e : Env} {s : State} {m : MethodId} {below : List Frame} {meth : Method} {c : Code} (l : Launch) {b L : Nat} {xs : Nat → Int32} (C0 : lw_At p s m meth c b L xs) (hL : L ≤ 4096) {D : va_G} {E : Nat → ClassId} {G : Nat → Nat} {A : Nat → Prop} (hAe : A = fun q => s.heap.size ≤ q) (hK : va_K D vwCl (oh_ty E) s) (hG : oh_G G A s) {a : Nat → Nat} {i : Nat} (hi : i + 8 ≤ L) {ma : Nat → Nat} {C M : Nat → va_E} {n cN sN : Nat} (hT : TyX a E C) (hTM : TyM ma E M) (hR : RelM M) (hkp : KEPT E n ma M) (ht1 : gi (C 5) 1 = gi (M 0) 7) (ht2 : gi (C 0) 2 = 0 ↔ n = 74) (ht3 : ga (C 32) = ga (M 7)) (htA : ∃ (A0 : LA) (T0 : TP), absX 10 C A0 ∧ absM M A0 ∧ okA A0 ∧ absTX 1 16 C T0 ∧ absTM M T0 ∧ ∃ (S0 : HZ) (Z0 : EZ), absHX C S0 ∧ absHM M S0 ∧ absEX C S0 Z0 ∧ absEM M S0 Z0) (htK : TIEK n C M) (hcN : cN ≤ 35 + n) (hsN : sN ≤ 1477 + 16 * n) {H : Heap} {locs : List Loc} (hP : va_P D vwCl (oh_W 35 a C ++ oh_W n ma M) H) (hD : va_D A (oh_W 35 a C ++ oh_W n ma M)) (hS : va_S A s.heap H locs) {ls : Array Slot} (hl : lv_has ls 4 [(3, .int (nI i)), (2, .ref (ma 0)), (1, .ref (a 0)), (0, .ref b)]) (kk : ∀ (ma : Nat → Nat) (C M : Nat → va_E) (n cN sN : Nat) (H : Heap) (locs : List Loc) (ls : Array Slot), TyX a E C → TyM ma E M → RelM M → KEPT E n ma M → gi (C 5) 1 = gi (M 0) 7 → (gi (C 0) 2 = 0 ↔ n = 74) → ga (C 32) = ga (M 7) → (∃ (A0 : LA) (T0 : TP), absX 10 C A0 ∧ absM M A0 ∧ okA A0 ∧ absTX 1 16 C T0 ∧ absTM M T0 ∧ ∃ (S0 : HZ) (Z0 : EZ), absHX C S0 ∧ absHM M S0 ∧ absEX C S0 Z0 ∧ absEM M S0 Z0) → TIEK n C M → cN ≤ 35 + n → sN ≤ 1477 + 16 * n → va_P D vwCl (oh_W 35 a C ++ oh_W n ma M) H → va_D A (oh_W 35 a C ++ oh_W n ma M) → va_S A s.heap H locs → lv_has ls 4 [(3, .int (nI i)), (2, .ref (ma 0)), (1, .ref (a 0)), (0, .ref b)] → W p l e room_1 s m #[Value.ref b] below meth c H locs cN sN (lw_Z below #[Value.ref b] s) (F0 m 2045 ls [])) : W p l e room_1 s m #[Value.ref b] below meth c H locs cN sN (lw_Z below #[Value.ref b] s) (F0 m 1734 ls []) := by
  obtain ⟨hx, hb, hr, hml, hown, hts, hX, hbl, hlocks, hgv⟩ := id C0
  have hown : s.vm.findClass RL = some m.cls := hown
  have htg : ∀ w ∈ oh_t, w.before _ s = true := fun w h => hts w (List.mem_filter.mp h).1
  have hA : ∀ q, s.heap.size ≤ q → A q := fun q h => by rw [hAe]; exact h
  have hbA : ¬ A b := by rw [hAe]; exact Nat.not_le.mpr hbl
  have hn := hkp.le.1
  have hn8 := hkp.le.2
  have ht10 := ht1
  have ht20 := ht2
  have ht30 := ht3
  obtain ⟨A0, T0, hAX, hAM, hok, hUX, hUM, S0, Z0, hSX, hSM, hEX, hEM⟩ := htA
  have hAX0 := hAX
  have hAM0 := hAM
  have htK0 := htK
  have hSX0 := hSX
  have hSM0 := hSM
  have hEX0 := hEX
  have hEM0 := hEM
  have hUX0 := hUX
  refine lv_aload_n hx hb dL_law_1734 rfl (lv_at hl 2 rfl) ?_
  refine lv_aload_n hx hb dL_law_1735 rfl (lv_at hl 3 rfl) ?_
  refine lv_iload_n hx hb dL_law_1736 rfl (lv_at hl 0 rfl) ?_
  refine lv_iconst (v := 1) hx hb dL_law_1737 (by decide) ?_
  refine lv_iadd hx hb dL_law_1738 ?_
  refine va_sld hx hb hX hbl hbA hS (lw_ix hi hL (rg_c (v := 1) (lo := 1) (hi := 1) (by decide)) (by decide)) dL_law_1739 ?_
  refine lv_aload_n hx hb dL_law_1740 rfl (lv_at hl 3 rfl) ?_
  refine lv_iload_n hx hb dL_law_1741 rfl (lv_at hl 0 rfl) ?_
  refine lv_iconst (v := 2) hx hb dL_law_1742 (by decide) ?_
  refine lv_iadd hx hb dL_law_1743 ?_
  refine va_sld hx hb hX hbl hbA hS (lw_ix hi hL (rg_c (v := 2) (lo := 2) (hi := 2) (by decide)) (by decide)) dL_law_1744 ?_
  refine lv_aload_n hx hb dL_law_1745 rfl (lv_at hl 3 rfl) ?_
  refine lv_iload_n hx hb dL_law_1746 rfl (lv_at hl 0 rfl) ?_
  refine lv_iconst (v := 3) hx hb dL_law_1747 (by decide) ?_
  refine lv_iadd hx hb dL_law_1748 ?_
  refine va_sld hx hb hX hbl hbA hS (lw_ix hi hL (rg_c (v := 3) (lo := 3) (hi := 3) (by decide)) (by decide)) dL_law_1749 ?_
  refine lw_cX (As := [.int (xs ((nI i) + 1).toNatClampNeg), .int (xs ((nI i) + 2).toNatClampNeg), .int (xs ((nI i) + 3).toNatClampNeg)]) (rest := []) ⟨hx, hb, hml, hown, htg⟩ (c_X6_fewest l D E G _ a C hT (xs ((nI i) + 1).toNatClampNeg) (xs ((nI i) + 2).toNatClampNeg) (xs ((nI i) + 3).toNatClampNeg)) (cwV 3 htg (oh_gV q_876 q_877 q_878 q_66 q_879) rfl rfl rfl pdVX6_fewest ⟨Nat.le_of_ble_eq_true rfl, Nat.le_of_ble_eq_true rfl⟩) hK hP hD hG hS hA (va_recv hK (oh_pre_P hP) (ci := 6) (q0 := 0) rfl (oh_wg (by decide) (sX_0 hT))) rfl hl.1 rfl (Nat.le_of_ble_eq_true rfl) dL_law_1750 ⟨show cN + 0 ≤ 600000 by omega, show sN + 0 ≤ 7302250 by omega⟩ (fun r_1 C_3 H locs hq_2 hP hD hS => ?_)
  obtain ⟨hT, f_4, hq_2⟩ := hq_2
  have ht1 : gi (C_3 5) 1 = gi (M 0) 7 := by rw [f_4.1 5 rfl (by decide)]; exact ht1
  have ht2 : gi (C_3 0) 2 = 0 ↔ n = 74 := by rw [show gi (C_3 0) 2 = gi (C 0) 2 from congrArg vi (f_4.2 2 (by decide))]; exact ht2
  have ht3 : ga (C_3 32) = ga (M 7) := Eq.trans (congrArg ga (f_4.1 32 rfl (by decide))) ht3
  have htK := htK.x (fr_all f_4 17 23 (by decide)) (f_4.1 2 rfl (by decide))
  have hAX : absX 10 C_3 A0 := absX_eq hAX (fun k k1 k2 => fr_all f_4 10 15 (by decide) k k1 (by omega))
  have hUX : absTX 1 16 C_3 T0 := absTX_eq hUX (congrArg (fun z => gi z 7) (f_4.1 1 rfl (by decide))) (f_4.1 16 rfl (by decide))
  have hEX := ex_eq hEX (f_4.1 31 rfl (by decide))
  have hSX : absHX C_3 S0 := hx_fr hSX (f_4.1 29 rfl (by decide)) (f_4.1 30 rfl (by decide))
  refine W.widen (k := cN) (n := sN) (Nat.le_refl _) (Nat.le_refl _) ?_
  refine lv_pop hx hb dL_law_1753 rfl ?_
  refine lv_aload_n hx hb dL_law_1754 rfl (lv_at hl 1 rfl) ?_
  refine lv_aload_n hx hb dL_law_1755 rfl (lv_at hl 3 rfl) ?_
  refine lv_iload_n hx hb dL_law_1756 rfl (lv_at hl 0 rfl) ?_
  refine lv_iconst (v := 1) hx hb dL_law_1757 (by decide) ?_
  refine lv_iadd hx hb dL_law_1758 ?_
  refine va_sld hx hb hX hbl hbA hS (lw_ix hi hL (rg_c (v := 1) (lo := 1) (hi := 1) (by decide)) (by decide)) dL_law_1759 ?_
  refine lv_aload_n hx hb dL_law_1760 rfl (lv_at hl 3 rfl) ?_
  refine lv_iload_n hx hb dL_law_1761 rfl (lv_at hl 0 rfl) ?_
  refine lv_iconst (v := 2) hx hb dL_law_1762 (by decide) ?_
  refine lv_iadd hx hb dL_law_1763 ?_
  refine va_sld hx hb hX hbl hbA hS (lw_ix hi hL (rg_c (v := 2) (lo := 2) (hi := 2) (by decide)) (by decide)) dL_law_1764 ?_
  refine lv_aload_n hx hb dL_law_1765 rfl (lv_at hl 3 rfl) ?_
  refine lv_iload_n hx hb dL_law_1766 rfl (lv_at hl 0 rfl) ?_
  refine lv_iconst (v := 3) hx hb dL_law_1767 (by decide) ?_
  refine lv_iadd hx hb dL_law_1768 ?_
  refine va_sld hx hb hX hbl hbA hS (lw_ix hi hL (rg_c (v := 3) (lo := 3) (hi := 3) (by decide)) (by decide)) dL_law_1769 ?_
  refine lw_cM (As := [.int (xs ((nI i) + 1).toNatClampNeg), .int (xs ((nI i) + 2).toNatClampNeg), .int (xs ((nI i) + 3).toNatClampNeg)]) (rest := []) ⟨hx, hb, hml, hown, htg⟩ (c_X7_fewest l D E G _ ma M n hn hTM (xs ((nI i) + 1).toNatClampNeg) (xs ((nI i) + 2).toNatClampNeg) (xs ((nI i) + 3).toNatClampNeg) hR) (cwV 3 htg (oh_gV q_1397 q_1398 q_1399 q_73 q_1400) rfl rfl rfl pdVX7_fewest ⟨Nat.le_of_ble_eq_true rfl, Nat.le_of_ble_eq_true rfl⟩) hK hP hD hG hS hA (va_recv hK (oh_suf_P hP) (ci := 7) (q0 := 0) rfl (oh_wg (by omega) (sM_0 hTM))) rfl hl.1 rfl (Nat.le_of_ble_eq_true rfl) dL_law_1770 ⟨show cN + 0 ≤ 600000 by omega, show sN + 0 ≤ 7302250 by omega⟩ (fun r_5 M_7 H locs hq_6 hP hD hS => ?_)
  have hTM0 := hTM
  obtain ⟨hTM, f_8, hR⟩ := hq_6
  have hkp := kept_fr hkp f_8 (by decide)
  have ht1 : gi (C_3 5) 1 = gi (M_7 0) 7 := by rw [show gi (M_7 0) 7 = gi (M 0) 7 from congrArg vi (f_8.2 7 (by decide))]; exact ht1
  have ht3 : ga (C_3 32) = ga (M_7 7) := Eq.trans ht3 (congrArg ga (f_8.1 7 rfl (by decide))).symm
  have htK := htK.m f_8 (by decide)
  have hAM : absM M_7 A0 := absM_fr hAM hTM0 f_8 (by decide) (by decide) (by decide)
  have hUM : absTM M_7 T0 := absTM_eq hUM (f_8.1 14 rfl (by decide)) (congrArg vi (f_8.2 19 (by decide)))
  have hEM := em_eq hEM (fun s hs => f_8.1 (16 + s) (inR_out hs (by decide)) (by omega))
  have hSM : absHM M_7 S0 := hm_fr hSM (f_8.1 1 rfl (by decide)) (f_8.1 2 rfl (by decide)) (f_8.1 3 rfl (by decide)) (f_8.1 6 rfl (by decide))
  refine W.widen (k := cN) (n := sN) (Nat.le_refl _) (Nat.le_refl _) ?_
  refine lv_pop hx hb dL_law_1773 rfl ?_
  refine lv_goto (tgt := 2045) hx hb dL_law_1774 (by decide) ?_
  exact kk ma C_3 M_7 n (cN) (sN) H locs ls hT hTM hR hkp ht1 ht2 ht3 ⟨_, _, hAX, hAM, hok, hUX, hUM, _, _, hSX, hSM, hEX, hEM⟩ htK (by omega) (by omega) hP hD hS hl

set_option maxHeartbeats 4000000 in
set_option maxRecDepth 100000 in
/-- the law at a call of most -/
theorem lc_most {p : Program} {e : Env} {s : State} {m : MethodId} {below : List Frame} {meth : Method} {c : Code} (l : Launch) {b L : Nat} {xs : Nat → Int32} (C0 : lw_At p s m meth c b L xs) (hL : L ≤ 4096) {D : va_G} {E : Nat → ClassId} {G : Nat → Nat} {A : Nat → Prop} (hAe : A = fun q => s.heap.size ≤ q) (hK : va_K D vwCl (oh_ty E) s) (hG : oh_G G A s) {a : Nat → Nat} {i : Nat} (hi : i + 8 ≤ L) {ma : Nat → Nat} {C M : Nat → va_E} {n cN sN : Nat} (hT : TyX a E C) (hTM : TyM ma E M) (hR : RelM M) (hkp : KEPT E n ma M) (ht1 : gi (C 5) 1 = gi (M 0) 7) (ht2 : gi (C 0) 2 = 0 ↔ n = 74) (ht3 : ga (C 32) = ga (M 7)) (htA : ∃ (A0 : LA) (T0 : TP), absX 10 C A0 ∧ absM M A0 ∧ okA A0 ∧ absTX 1 16 C T0 ∧ absTM M T0 ∧ ∃ (S0 : HZ) (Z0 : EZ), absHX C S0 ∧ absHM M S0 ∧ absEX C S0 Z0 ∧ absEM M S0 Z0) (htK : TIEK n C M) (hcN : cN ≤ 35 + n) (hsN : sN ≤ 1477 + 16 * n) {H : Heap} {locs : List Loc} (hP : va_P D vwCl (oh_W 35 a C ++ oh_W n ma M) H) (hD : va_D A (oh_W 35 a C ++ oh_W n ma M)) (hS : va_S A s.heap H locs) {ls : Array Slot} (hl : lv_has ls 4 [(3, .int (nI i)), (2, .ref (ma 0)), (1, .ref (a 0)), (0, .ref b)]) (kk : ∀ (ma : Nat → Nat) (C M : Nat → va_E) (n cN sN : Nat) (H : Heap) (locs : List Loc) (ls : Array Slot), TyX a E C → TyM ma E M → RelM M → KEPT E n ma M → gi (C 5) 1 = gi (M 0) 7 → (gi (C 0) 2 = 0 ↔ n = 74) → ga (C 32) = ga (M 7) → (∃ (A0 : LA) (T0 : TP), absX 10 C A0 ∧ absM M A0 ∧ okA A0 ∧ absTX 1 16 C T0 ∧ absTM M T0 ∧ ∃ (S0 : HZ) (Z0 : EZ), absHX C S0 ∧ absHM M S0 ∧ absEX C S0 Z0 ∧ absEM M S0 Z0) → TIEK n C M → cN ≤ 35 + n → sN ≤ 1477 + 16 * n → va_P D vwCl (oh_W 35 a C ++ oh_W n ma M) H → va_D A (oh_W 35 a C ++ oh_W n ma M) → va_S A s.heap H locs → lv_has ls 4 [(3, .int (nI i)), (2, .ref (ma 0)), (1, .ref (a 0)), (0, .ref b)] → W p l e room_1 s m #[Value.ref b] below meth c H locs cN sN (lw_Z below #[Value.ref b] s) (F0 m 2045 ls [])) : W p l e room_1 s m #[Value.ref b] below meth c H locs cN sN (lw_Z below #[Value.ref b] s) (F0 m 1777 ls []) := by
  obtain ⟨hx, hb, hr, hml, hown, hts, hX, hbl, hlocks, hgv⟩ := id C0
  have hown : s.vm.findClass RL = some m.cls := hown
  have htg : ∀ w ∈ oh_t, w.before _ s = true := fun w h => hts w (List.mem_filter.mp h).1
  have hA : ∀ q, s.heap.size ≤ q → A q := fun q h => by rw [hAe]; exact h
  have hbA : ¬ A b := by rw [hAe]; exact Nat.not_le.mpr hbl
  have hn := hkp.le.1
  have hn8 := hkp.le.2
  have ht10 := ht1
  have ht20 := ht2
  have ht30 := ht3
  obtain ⟨A0, T0, hAX, hAM, hok, hUX, hUM, S0, Z0, hSX, hSM, hEX, hEM⟩ := htA
  have hAX0 := hAX
  have hAM0 := hAM
  have htK0 := htK
  have hSX0 := hSX
  have hSM0 := hSM
  have hEX0 := hEX
  have hEM0 := hEM
  have hUX0 := hUX
  refine lv_aload_n hx hb dL_law_1777 rfl (lv_at hl 2 rfl) ?_
  refine lv_aload_n hx hb dL_law_1778 rfl (lv_at hl 3 rfl) ?_
  refine lv_iload_n hx hb dL_law_1779 rfl (lv_at hl 0 rfl) ?_
  refine lv_iconst (v := 1) hx hb dL_law_1780 (by decide) ?_
  refine lv_iadd hx hb dL_law_1781 ?_
  refine va_sld hx hb hX hbl hbA hS (lw_ix hi hL (rg_c (v := 1) (lo := 1) (hi := 1) (by decide)) (by decide)) dL_law_1782 ?_
  refine lv_aload_n hx hb dL_law_1783 rfl (lv_at hl 3 rfl) ?_
  refine lv_iload_n hx hb dL_law_1784 rfl (lv_at hl 0 rfl) ?_
  refine lv_iconst (v := 2) hx hb dL_law_1785 (by decide) ?_
  refine lv_iadd hx hb dL_law_1786 ?_
  refine va_sld hx hb hX hbl hbA hS (lw_ix hi hL (rg_c (v := 2) (lo := 2) (hi := 2) (by decide)) (by decide)) dL_law_1787 ?_
  refine lv_aload_n hx hb dL_law_1788 rfl (lv_at hl 3 rfl) ?_
  refine lv_iload_n hx hb dL_law_1789 rfl (lv_at hl 0 rfl) ?_
  refine lv_iconst (v := 3) hx hb dL_law_1790 (by decide) ?_
  refine lv_iadd hx hb dL_law_1791 ?_
  refine va_sld hx hb hX hbl hbA hS (lw_ix hi hL (rg_c (v := 3) (lo := 3) (hi := 3) (by decide)) (by decide)) dL_law_1792 ?_
  refine lw_cX (As := [.int (xs ((nI i) + 1).toNatClampNeg), .int (xs ((nI i) + 2).toNatClampNeg), .int (xs ((nI i) + 3).toNatClampNeg)]) (rest := []) ⟨hx, hb, hml, hown, htg⟩ (e_X6_most l D E G _ a C hT (xs ((nI i) + 1).toNatClampNeg) (xs ((nI i) + 2).toNatClampNeg) (xs ((nI i) + 3).toNatClampNeg)) (cwV 3 htg (oh_gV q_885 q_886 q_887 q_66 q_888) rfl rfl rfl pdVX6_most ⟨Nat.le_of_ble_eq_true rfl, Nat.le_of_ble_eq_true rfl⟩) hK hP hD hG hS hA (va_recv hK (oh_pre_P hP) (ci := 6) (q0 := 0) rfl (oh_wg (by decide) (sX_0 hT))) rfl hl.1 rfl (Nat.le_of_ble_eq_true rfl) dL_law_1793 ⟨show cN + 0 ≤ 600000 by omega, show sN + 0 ≤ 7302250 by omega⟩ (fun r_1 C_3 H locs hq_2 hP hD hS => ?_)
  obtain ⟨hT, f_4, hq_2⟩ := hq_2
  have ht1 : gi (C_3 5) 1 = gi (M 0) 7 := by rw [f_4.1 5 rfl (by decide)]; exact ht1
  have ht2 : gi (C_3 0) 2 = 0 ↔ n = 74 := by rw [show gi (C_3 0) 2 = gi (C 0) 2 from congrArg vi (f_4.2 2 (by decide))]; exact ht2
  have ht3 : ga (C_3 32) = ga (M 7) := Eq.trans (congrArg ga (f_4.1 32 rfl (by decide))) ht3
  have htK := htK.x (fr_all f_4 17 23 (by decide)) (f_4.1 2 rfl (by decide))
  have hAX : absX 10 C_3 A0 := absX_g1 15 hAX f_4 hq_2 (by decide)
  have hUX : absTX 1 16 C_3 T0 := absTX_eq hUX (congrArg (fun z => gi z 7) (f_4.1 1 rfl (by decide))) (f_4.1 16 rfl (by decide))
  have hEX := ex_eq hEX (f_4.1 31 rfl (by decide))
  have hSX : absHX C_3 S0 := hx_fr hSX (f_4.1 29 rfl (by decide)) (f_4.1 30 rfl (by decide))
  refine W.widen (k := cN) (n := sN) (Nat.le_refl _) (Nat.le_refl _) ?_
  refine lv_pop hx hb dL_law_1796 rfl ?_
  refine lv_aload_n hx hb dL_law_1797 rfl (lv_at hl 1 rfl) ?_
  refine lv_aload_n hx hb dL_law_1798 rfl (lv_at hl 3 rfl) ?_
  refine lv_iload_n hx hb dL_law_1799 rfl (lv_at hl 0 rfl) ?_
  refine lv_iconst (v := 1) hx hb dL_law_1800 (by decide) ?_
  refine lv_iadd hx hb dL_law_1801 ?_
  refine va_sld hx hb hX hbl hbA hS (lw_ix hi hL (rg_c (v := 1) (lo := 1) (hi := 1) (by decide)) (by decide)) dL_law_1802 ?_
  refine lv_aload_n hx hb dL_law_1803 rfl (lv_at hl 3 rfl) ?_
  refine lv_iload_n hx hb dL_law_1804 rfl (lv_at hl 0 rfl) ?_
  refine lv_iconst (v := 2) hx hb dL_law_1805 (by decide) ?_
  refine lv_iadd hx hb dL_law_1806 ?_
  refine va_sld hx hb hX hbl hbA hS (lw_ix hi hL (rg_c (v := 2) (lo := 2) (hi := 2) (by decide)) (by decide)) dL_law_1807 ?_
  refine lv_aload_n hx hb dL_law_1808 rfl (lv_at hl 3 rfl) ?_
  refine lv_iload_n hx hb dL_law_1809 rfl (lv_at hl 0 rfl) ?_
  refine lv_iconst (v := 3) hx hb dL_law_1810 (by decide) ?_
  refine lv_iadd hx hb dL_law_1811 ?_
  refine va_sld hx hb hX hbl hbA hS (lw_ix hi hL (rg_c (v := 3) (lo := 3) (hi := 3) (by decide)) (by decide)) dL_law_1812 ?_
  refine lw_cM (As := [.int (xs ((nI i) + 1).toNatClampNeg), .int (xs ((nI i) + 2).toNatClampNeg), .int (xs ((nI i) + 3).toNatClampNeg)]) (rest := []) ⟨hx, hb, hml, hown, htg⟩ (e_X7_most l D E G _ ma M n hn hTM (xs ((nI i) + 1).toNatClampNeg) (xs ((nI i) + 2).toNatClampNeg) (xs ((nI i) + 3).toNatClampNeg) hR) (cwV 3 htg (oh_gV q_1401 q_1402 q_1403 q_73 q_1404) rfl rfl rfl pdVX7_most ⟨Nat.le_of_ble_eq_true rfl, Nat.le_of_ble_eq_true rfl⟩) hK hP hD hG hS hA (va_recv hK (oh_suf_P hP) (ci := 7) (q0 := 0) rfl (oh_wg (by omega) (sM_0 hTM))) rfl hl.1 rfl (Nat.le_of_ble_eq_true rfl) dL_law_1813 ⟨show cN + 0 ≤ 600000 by omega, show sN + 0 ≤ 7302250 by omega⟩ (fun r_5 M_7 H locs hq_6 hP hD hS => ?_)
  have hTM0 := hTM
  obtain ⟨hTM, f_8, hR, hq_6⟩ := hq_6
  have hkp := kept_fr hkp f_8 (by decide)
  have ht1 : gi (C_3 5) 1 = gi (M_7 0) 7 := by rw [show gi (M_7 0) 7 = gi (M 0) 7 from congrArg vi (f_8.2 7 (by decide))]; exact ht1
  have ht3 : ga (C_3 32) = ga (M_7 7) := Eq.trans ht3 (congrArg ga (f_8.1 7 rfl (by decide))).symm
  have htK := htK.m f_8 (by decide)
  have hAM : absM M_7 A0 := absM_13 hAM hTM0 hq_6 f_8 (by decide) (by decide)
  have hUM : absTM M_7 T0 := absTM_eq hUM (f_8.1 14 rfl (by decide)) (congrArg vi (f_8.2 19 (by decide)))
  have hEM := em_eq hEM (fun s hs => f_8.1 (16 + s) (inR_out hs (by decide)) (by omega))
  have hSM : absHM M_7 S0 := hm_fr hSM (f_8.1 1 rfl (by decide)) (f_8.1 2 rfl (by decide)) (f_8.1 3 rfl (by decide)) (f_8.1 6 rfl (by decide))
  refine W.widen (k := cN) (n := sN) (Nat.le_refl _) (Nat.le_refl _) ?_
  refine lv_pop hx hb dL_law_1816 rfl ?_
  refine lv_goto (tgt := 2045) hx hb dL_law_1817 (by decide) ?_
  exact kk ma C_3 M_7 n (cN) (sN) H locs ls hT hTM hR hkp ht1 ht2 ht3 ⟨_, _, hAX, hAM, hok, hUX, hUM, _, _, hSX, hSM, hEX, hEM⟩ htK (by omega) (by omega) hP hD hS hl

set_option maxHeartbeats 4000000 in
set_option maxRecDepth 100000 in
/-- the law at a call of frost -/
theorem lc_frost {p : Program} {e : Env} {s : State} {m : MethodId} {below : List Frame} {meth : Method} {c : Code} (l : Launch) {b L : Nat} {xs : Nat → Int32} (C0 : lw_At p s m meth c b L xs) (hL : L ≤ 4096) {D : va_G} {E : Nat → ClassId} {G : Nat → Nat} {A : Nat → Prop} (hAe : A = fun q => s.heap.size ≤ q) (hK : va_K D vwCl (oh_ty E) s) (hG : oh_G G A s) {a : Nat → Nat} {i : Nat} (hi : i + 8 ≤ L) {ma : Nat → Nat} {C M : Nat → va_E} {n cN sN : Nat} (hT : TyX a E C) (hTM : TyM ma E M) (hR : RelM M) (hkp : KEPT E n ma M) (ht1 : gi (C 5) 1 = gi (M 0) 7) (ht2 : gi (C 0) 2 = 0 ↔ n = 74) (ht3 : ga (C 32) = ga (M 7)) (htA : ∃ (A0 : LA) (T0 : TP), absX 10 C A0 ∧ absM M A0 ∧ okA A0 ∧ absTX 1 16 C T0 ∧ absTM M T0 ∧ ∃ (S0 : HZ) (Z0 : EZ), absHX C S0 ∧ absHM M S0 ∧ absEX C S0 Z0 ∧ absEM M S0 Z0) (htK : TIEK n C M) (hcN : cN ≤ 35 + n) (hsN : sN ≤ 1477 + 16 * n) {H : Heap} {locs : List Loc} (hP : va_P D vwCl (oh_W 35 a C ++ oh_W n ma M) H) (hD : va_D A (oh_W 35 a C ++ oh_W n ma M)) (hS : va_S A s.heap H locs) {ls : Array Slot} (hl : lv_has ls 4 [(3, .int (nI i)), (2, .ref (ma 0)), (1, .ref (a 0)), (0, .ref b)]) (kk : ∀ (ma : Nat → Nat) (C M : Nat → va_E) (n cN sN : Nat) (H : Heap) (locs : List Loc) (ls : Array Slot), TyX a E C → TyM ma E M → RelM M → KEPT E n ma M → gi (C 5) 1 = gi (M 0) 7 → (gi (C 0) 2 = 0 ↔ n = 74) → ga (C 32) = ga (M 7) → (∃ (A0 : LA) (T0 : TP), absX 10 C A0 ∧ absM M A0 ∧ okA A0 ∧ absTX 1 16 C T0 ∧ absTM M T0 ∧ ∃ (S0 : HZ) (Z0 : EZ), absHX C S0 ∧ absHM M S0 ∧ absEX C S0 Z0 ∧ absEM M S0 Z0) → TIEK n C M → cN ≤ 35 + n → sN ≤ 1477 + 16 * n → va_P D vwCl (oh_W 35 a C ++ oh_W n ma M) H → va_D A (oh_W 35 a C ++ oh_W n ma M) → va_S A s.heap H locs → lv_has ls 4 [(3, .int (nI i)), (2, .ref (ma 0)), (1, .ref (a 0)), (0, .ref b)] → W p l e room_1 s m #[Value.ref b] below meth c H locs cN sN (lw_Z below #[Value.ref b] s) (F0 m 2045 ls [])) : W p l e room_1 s m #[Value.ref b] below meth c H locs cN sN (lw_Z below #[Value.ref b] s) (F0 m 1820 ls []) := by
  obtain ⟨hx, hb, hr, hml, hown, hts, hX, hbl, hlocks, hgv⟩ := id C0
  have hown : s.vm.findClass RL = some m.cls := hown
  have htg : ∀ w ∈ oh_t, w.before _ s = true := fun w h => hts w (List.mem_filter.mp h).1
  have hA : ∀ q, s.heap.size ≤ q → A q := fun q h => by rw [hAe]; exact h
  have hbA : ¬ A b := by rw [hAe]; exact Nat.not_le.mpr hbl
  have hn := hkp.le.1
  have hn8 := hkp.le.2
  have ht10 := ht1
  have ht20 := ht2
  have ht30 := ht3
  obtain ⟨A0, T0, hAX, hAM, hok, hUX, hUM, S0, Z0, hSX, hSM, hEX, hEM⟩ := htA
  have hAX0 := hAX
  have hAM0 := hAM
  have htK0 := htK
  have hSX0 := hSX
  have hSM0 := hSM
  have hEX0 := hEX
  have hEM0 := hEM
  have hUX0 := hUX
  refine lv_aload_n hx hb dL_law_1820 rfl (lv_at hl 2 rfl) ?_
  refine lv_aload_n hx hb dL_law_1821 rfl (lv_at hl 3 rfl) ?_
  refine lv_iload_n hx hb dL_law_1822 rfl (lv_at hl 0 rfl) ?_
  refine lv_iconst (v := 1) hx hb dL_law_1823 (by decide) ?_
  refine lv_iadd hx hb dL_law_1824 ?_
  refine va_sld hx hb hX hbl hbA hS (lw_ix hi hL (rg_c (v := 1) (lo := 1) (hi := 1) (by decide)) (by decide)) dL_law_1825 ?_
  refine lv_aload_n hx hb dL_law_1826 rfl (lv_at hl 3 rfl) ?_
  refine lv_iload_n hx hb dL_law_1827 rfl (lv_at hl 0 rfl) ?_
  refine lv_iconst (v := 2) hx hb dL_law_1828 (by decide) ?_
  refine lv_iadd hx hb dL_law_1829 ?_
  refine va_sld hx hb hX hbl hbA hS (lw_ix hi hL (rg_c (v := 2) (lo := 2) (hi := 2) (by decide)) (by decide)) dL_law_1830 ?_
  refine lv_aload_n hx hb dL_law_1831 rfl (lv_at hl 3 rfl) ?_
  refine lv_iload_n hx hb dL_law_1832 rfl (lv_at hl 0 rfl) ?_
  refine lv_iconst (v := 3) hx hb dL_law_1833 (by decide) ?_
  refine lv_iadd hx hb dL_law_1834 ?_
  refine va_sld hx hb hX hbl hbA hS (lw_ix hi hL (rg_c (v := 3) (lo := 3) (hi := 3) (by decide)) (by decide)) dL_law_1835 ?_
  refine lv_aload_n hx hb dL_law_1836 rfl (lv_at hl 3 rfl) ?_
  refine lv_iload_n hx hb dL_law_1837 rfl (lv_at hl 0 rfl) ?_
  refine lv_iconst (v := 4) hx hb dL_law_1838 (by decide) ?_
  refine lv_iadd hx hb dL_law_1839 ?_
  refine va_sld hx hb hX hbl hbA hS (lw_ix hi hL (rg_c (v := 4) (lo := 4) (hi := 4) (by decide)) (by decide)) dL_law_1840 ?_
  refine lv_aload_n hx hb dL_law_1841 rfl (lv_at hl 3 rfl) ?_
  refine lv_iload_n hx hb dL_law_1842 rfl (lv_at hl 0 rfl) ?_
  refine lv_iconst (v := 5) hx hb dL_law_1843 (by decide) ?_
  refine lv_iadd hx hb dL_law_1844 ?_
  refine va_sld hx hb hX hbl hbA hS (lw_ix hi hL (rg_c (v := 5) (lo := 5) (hi := 5) (by decide)) (by decide)) dL_law_1845 ?_
  refine lv_aload_n hx hb dL_law_1846 rfl (lv_at hl 3 rfl) ?_
  refine lv_iload_n hx hb dL_law_1847 rfl (lv_at hl 0 rfl) ?_
  refine lv_bipush (v := 6) hx hb dL_law_1848 (by decide) ?_
  refine lv_iadd hx hb dL_law_1850 ?_
  refine va_sld hx hb hX hbl hbA hS (lw_ix hi hL (rg_c (v := 6) (lo := 6) (hi := 6) (by decide)) (by decide)) dL_law_1851 ?_
  refine lv_aload_n hx hb dL_law_1852 rfl (lv_at hl 3 rfl) ?_
  refine lv_iload_n hx hb dL_law_1853 rfl (lv_at hl 0 rfl) ?_
  refine lv_bipush (v := 7) hx hb dL_law_1854 (by decide) ?_
  refine lv_iadd hx hb dL_law_1856 ?_
  refine va_sld hx hb hX hbl hbA hS (lw_ix hi hL (rg_c (v := 7) (lo := 7) (hi := 7) (by decide)) (by decide)) dL_law_1857 ?_
  refine lw_cXl (As := [.int (xs ((nI i) + 1).toNatClampNeg), .int (xs ((nI i) + 2).toNatClampNeg), .int (xs ((nI i) + 3).toNatClampNeg), .int (xs ((nI i) + 4).toNatClampNeg), .int (xs ((nI i) + 5).toNatClampNeg), .int (xs ((nI i) + 6).toNatClampNeg), .int (xs ((nI i) + 7).toNatClampNeg)]) (rest := []) ⟨hx, hb, hml, hown, htg⟩ (e_X6_frost l D E G _ a C hT (xs ((nI i) + 1).toNatClampNeg) (xs ((nI i) + 2).toNatClampNeg) (xs ((nI i) + 3).toNatClampNeg) (xs ((nI i) + 4).toNatClampNeg) (xs ((nI i) + 5).toNatClampNeg) (xs ((nI i) + 6).toNatClampNeg) (xs ((nI i) + 7).toNatClampNeg)) (cwV 7 htg (oh_gV q_893 q_894 q_895 q_66 q_896) rfl rfl rfl pdVX6_frost ⟨Nat.le_of_ble_eq_true rfl, Nat.le_of_ble_eq_true rfl⟩) hK hP hD hG hS hA (va_recv hK (oh_pre_P hP) (ci := 6) (q0 := 0) rfl (oh_wg (by decide) (sX_0 hT))) rfl hl.1 rfl (Nat.le_of_ble_eq_true rfl) dL_law_1858 ⟨show cN + 0 ≤ 600000 by omega, show sN + 0 ≤ 7302250 by omega⟩ (fun r_1 C_3 H locs hq_2 hP hD hS => ?_)
  obtain ⟨hT, f_4, hq_2⟩ := hq_2
  have ht1 : gi (C_3 5) 1 = gi (M 0) 7 := by rw [f_4.1 5 rfl (by decide)]; exact ht1
  have ht2 : gi (C_3 0) 2 = 0 ↔ n = 74 := by rw [show gi (C_3 0) 2 = gi (C 0) 2 from congrArg vi (f_4.2 2 (by decide))]; exact ht2
  have ht3 : ga (C_3 32) = ga (M 7) := Eq.trans (congrArg ga (f_4.1 32 rfl (by decide))) ht3
  have htK := htK.x (fr_all f_4 17 23 (by decide)) (f_4.1 2 rfl (by decide))
  have hAX : absX 10 C_3 A0 := absX_g1 15 hAX f_4 hq_2 (by decide)
  have hUX : absTX 1 16 C_3 T0 := absTX_eq hUX (congrArg (fun z => gi z 7) (f_4.1 1 rfl (by decide))) (f_4.1 16 rfl (by decide))
  have hEX := ex_eq hEX (f_4.1 31 rfl (by decide))
  have hSX : absHX C_3 S0 := hx_fr hSX (f_4.1 29 rfl (by decide)) (f_4.1 30 rfl (by decide))
  refine W.widen (k := cN) (n := sN) (Nat.le_refl _) (Nat.le_refl _) ?_
  refine lv_pop2_2 hx hb dL_law_1861 rfl ?_
  refine lv_aload_n hx hb dL_law_1862 rfl (lv_at hl 1 rfl) ?_
  refine lv_aload_n hx hb dL_law_1863 rfl (lv_at hl 3 rfl) ?_
  refine lv_iload_n hx hb dL_law_1864 rfl (lv_at hl 0 rfl) ?_
  refine lv_iconst (v := 1) hx hb dL_law_1865 (by decide) ?_
  refine lv_iadd hx hb dL_law_1866 ?_
  refine va_sld hx hb hX hbl hbA hS (lw_ix hi hL (rg_c (v := 1) (lo := 1) (hi := 1) (by decide)) (by decide)) dL_law_1867 ?_
  refine lv_aload_n hx hb dL_law_1868 rfl (lv_at hl 3 rfl) ?_
  refine lv_iload_n hx hb dL_law_1869 rfl (lv_at hl 0 rfl) ?_
  refine lv_iconst (v := 2) hx hb dL_law_1870 (by decide) ?_
  refine lv_iadd hx hb dL_law_1871 ?_
  refine va_sld hx hb hX hbl hbA hS (lw_ix hi hL (rg_c (v := 2) (lo := 2) (hi := 2) (by decide)) (by decide)) dL_law_1872 ?_
  refine lv_aload_n hx hb dL_law_1873 rfl (lv_at hl 3 rfl) ?_
  refine lv_iload_n hx hb dL_law_1874 rfl (lv_at hl 0 rfl) ?_
  refine lv_iconst (v := 3) hx hb dL_law_1875 (by decide) ?_
  refine lv_iadd hx hb dL_law_1876 ?_
  refine va_sld hx hb hX hbl hbA hS (lw_ix hi hL (rg_c (v := 3) (lo := 3) (hi := 3) (by decide)) (by decide)) dL_law_1877 ?_
  refine lv_aload_n hx hb dL_law_1878 rfl (lv_at hl 3 rfl) ?_
  refine lv_iload_n hx hb dL_law_1879 rfl (lv_at hl 0 rfl) ?_
  refine lv_iconst (v := 4) hx hb dL_law_1880 (by decide) ?_
  refine lv_iadd hx hb dL_law_1881 ?_
  refine va_sld hx hb hX hbl hbA hS (lw_ix hi hL (rg_c (v := 4) (lo := 4) (hi := 4) (by decide)) (by decide)) dL_law_1882 ?_
  refine lv_aload_n hx hb dL_law_1883 rfl (lv_at hl 3 rfl) ?_
  refine lv_iload_n hx hb dL_law_1884 rfl (lv_at hl 0 rfl) ?_
  refine lv_iconst (v := 5) hx hb dL_law_1885 (by decide) ?_
  refine lv_iadd hx hb dL_law_1886 ?_
  refine va_sld hx hb hX hbl hbA hS (lw_ix hi hL (rg_c (v := 5) (lo := 5) (hi := 5) (by decide)) (by decide)) dL_law_1887 ?_
  refine lv_aload_n hx hb dL_law_1888 rfl (lv_at hl 3 rfl) ?_
  refine lv_iload_n hx hb dL_law_1889 rfl (lv_at hl 0 rfl) ?_
  refine lv_bipush (v := 6) hx hb dL_law_1890 (by decide) ?_
  refine lv_iadd hx hb dL_law_1892 ?_
  refine va_sld hx hb hX hbl hbA hS (lw_ix hi hL (rg_c (v := 6) (lo := 6) (hi := 6) (by decide)) (by decide)) dL_law_1893 ?_
  refine lv_aload_n hx hb dL_law_1894 rfl (lv_at hl 3 rfl) ?_
  refine lv_iload_n hx hb dL_law_1895 rfl (lv_at hl 0 rfl) ?_
  refine lv_bipush (v := 7) hx hb dL_law_1896 (by decide) ?_
  refine lv_iadd hx hb dL_law_1898 ?_
  refine va_sld hx hb hX hbl hbA hS (lw_ix hi hL (rg_c (v := 7) (lo := 7) (hi := 7) (by decide)) (by decide)) dL_law_1899 ?_
  refine lw_cMl (As := [.int (xs ((nI i) + 1).toNatClampNeg), .int (xs ((nI i) + 2).toNatClampNeg), .int (xs ((nI i) + 3).toNatClampNeg), .int (xs ((nI i) + 4).toNatClampNeg), .int (xs ((nI i) + 5).toNatClampNeg), .int (xs ((nI i) + 6).toNatClampNeg), .int (xs ((nI i) + 7).toNatClampNeg)]) (rest := []) ⟨hx, hb, hml, hown, htg⟩ (e_X7_frost l D E G _ ma M n hn hTM (xs ((nI i) + 1).toNatClampNeg) (xs ((nI i) + 2).toNatClampNeg) (xs ((nI i) + 3).toNatClampNeg) (xs ((nI i) + 4).toNatClampNeg) (xs ((nI i) + 5).toNatClampNeg) (xs ((nI i) + 6).toNatClampNeg) (xs ((nI i) + 7).toNatClampNeg) hR) (cwV 7 htg (oh_gV q_1405 q_1406 q_1407 q_73 q_1408) rfl rfl rfl pdVX7_frost ⟨Nat.le_of_ble_eq_true rfl, Nat.le_of_ble_eq_true rfl⟩) hK hP hD hG hS hA (va_recv hK (oh_suf_P hP) (ci := 7) (q0 := 0) rfl (oh_wg (by omega) (sM_0 hTM))) rfl hl.1 rfl (Nat.le_of_ble_eq_true rfl) dL_law_1900 ⟨show cN + 0 ≤ 600000 by omega, show sN + 0 ≤ 7302250 by omega⟩ (fun r_5 M_7 H locs hq_6 hP hD hS => ?_)
  have hTM0 := hTM
  obtain ⟨hTM, f_8, hR, hq_6⟩ := hq_6
  have hkp := kept_fr hkp f_8 (by decide)
  have ht1 : gi (C_3 5) 1 = gi (M_7 0) 7 := by rw [show gi (M_7 0) 7 = gi (M 0) 7 from congrArg vi (f_8.2 7 (by decide))]; exact ht1
  have ht3 : ga (C_3 32) = ga (M_7 7) := Eq.trans ht3 (congrArg ga (f_8.1 7 rfl (by decide))).symm
  have htK := htK.m f_8 (by decide)
  have hAM : absM M_7 A0 := absM_13 hAM hTM0 hq_6 f_8 (by decide) (by decide)
  have hUM : absTM M_7 T0 := absTM_eq hUM (f_8.1 14 rfl (by decide)) (congrArg vi (f_8.2 19 (by decide)))
  have hEM := em_eq hEM (fun s hs => f_8.1 (16 + s) (inR_out hs (by decide)) (by omega))
  have hSM : absHM M_7 S0 := hm_fr hSM (f_8.1 1 rfl (by decide)) (f_8.1 2 rfl (by decide)) (f_8.1 3 rfl (by decide)) (f_8.1 6 rfl (by decide))
  refine W.widen (k := cN) (n := sN) (Nat.le_refl _) (Nat.le_refl _) ?_
  refine lv_pop2_2 hx hb dL_law_1903 rfl ?_
  refine lv_goto (tgt := 2045) hx hb dL_law_1904 (by decide) ?_
  exact kk ma C_3 M_7 n (cN) (sN) H locs ls hT hTM hR hkp ht1 ht2 ht3 ⟨_, _, hAX, hAM, hok, hUX, hUM, _, _, hSX, hSM, hEX, hEM⟩ htK (by omega) (by omega) hP hD hS hl

set_option maxHeartbeats 4000000 in
set_option maxRecDepth 100000 in
/-- the law at a call of begin -/
theorem lc_begin {p : Program} {e : Env} {s : State} {m : MethodId} {below : List Frame} {meth : Method} {c : Code} (l : Launch) {b L : Nat} {xs : Nat → Int32} (C0 : lw_At p s m meth c b L xs) (hL : L ≤ 4096) {D : va_G} {E : Nat → ClassId} {G : Nat → Nat} {A : Nat → Prop} (hAe : A = fun q => s.heap.size ≤ q) (hK : va_K D vwCl (oh_ty E) s) (hG : oh_G G A s) {a : Nat → Nat} {i : Nat} (hi : i + 8 ≤ L) {ma : Nat → Nat} {C M : Nat → va_E} {n cN sN : Nat} (hT : TyX a E C) (hTM : TyM ma E M) (hR : RelM M) (hkp : KEPT E n ma M) (ht1 : gi (C 5) 1 = gi (M 0) 7) (ht2 : gi (C 0) 2 = 0 ↔ n = 74) (ht3 : ga (C 32) = ga (M 7)) (htA : ∃ (A0 : LA) (T0 : TP), absX 10 C A0 ∧ absM M A0 ∧ okA A0 ∧ absTX 1 16 C T0 ∧ absTM M T0 ∧ ∃ (S0 : HZ) (Z0 : EZ), absHX C S0 ∧ absHM M S0 ∧ absEX C S0 Z0 ∧ absEM M S0 Z0) (htK : TIEK n C M) (hcN : cN ≤ 35 + n) (hsN : sN ≤ 1477 + 16 * n) {H : Heap} {locs : List Loc} (hP : va_P D vwCl (oh_W 35 a C ++ oh_W n ma M) H) (hD : va_D A (oh_W 35 a C ++ oh_W n ma M)) (hS : va_S A s.heap H locs) {ls : Array Slot} (hl : lv_has ls 4 [(3, .int (nI i)), (2, .ref (ma 0)), (1, .ref (a 0)), (0, .ref b)]) (kk : ∀ (ma : Nat → Nat) (C M : Nat → va_E) (n cN sN : Nat) (H : Heap) (locs : List Loc) (ls : Array Slot), TyX a E C → TyM ma E M → RelM M → KEPT E n ma M → gi (C 5) 1 = gi (M 0) 7 → (gi (C 0) 2 = 0 ↔ n = 74) → ga (C 32) = ga (M 7) → (∃ (A0 : LA) (T0 : TP), absX 10 C A0 ∧ absM M A0 ∧ okA A0 ∧ absTX 1 16 C T0 ∧ absTM M T0 ∧ ∃ (S0 : HZ) (Z0 : EZ), absHX C S0 ∧ absHM M S0 ∧ absEX C S0 Z0 ∧ absEM M S0 Z0) → TIEK n C M → cN ≤ 35 + n → sN ≤ 1477 + 16 * n → va_P D vwCl (oh_W 35 a C ++ oh_W n ma M) H → va_D A (oh_W 35 a C ++ oh_W n ma M) → va_S A s.heap H locs → lv_has ls 4 [(3, .int (nI i)), (2, .ref (ma 0)), (1, .ref (a 0)), (0, .ref b)] → W p l e room_1 s m #[Value.ref b] below meth c H locs cN sN (lw_Z below #[Value.ref b] s) (F0 m 2045 ls [])) : W p l e room_1 s m #[Value.ref b] below meth c H locs cN sN (lw_Z below #[Value.ref b] s) (F0 m 1907 ls []) := by
  obtain ⟨hx, hb, hr, hml, hown, hts, hX, hbl, hlocks, hgv⟩ := id C0
  have hown : s.vm.findClass RL = some m.cls := hown
  have htg : ∀ w ∈ oh_t, w.before _ s = true := fun w h => hts w (List.mem_filter.mp h).1
  have hA : ∀ q, s.heap.size ≤ q → A q := fun q h => by rw [hAe]; exact h
  have hbA : ¬ A b := by rw [hAe]; exact Nat.not_le.mpr hbl
  have hn := hkp.le.1
  have hn8 := hkp.le.2
  have ht10 := ht1
  have ht20 := ht2
  have ht30 := ht3
  obtain ⟨A0, T0, hAX, hAM, hok, hUX, hUM, S0, Z0, hSX, hSM, hEX, hEM⟩ := htA
  have hAX0 := hAX
  have hAM0 := hAM
  have htK0 := htK
  have hSX0 := hSX
  have hSM0 := hSM
  have hEX0 := hEX
  have hEM0 := hEM
  have hUX0 := hUX
  refine lv_aload_n hx hb dL_law_1907 rfl (lv_at hl 2 rfl) ?_
  refine lv_aload_n hx hb dL_law_1908 rfl (lv_at hl 3 rfl) ?_
  refine lv_iload_n hx hb dL_law_1909 rfl (lv_at hl 0 rfl) ?_
  refine lv_iconst (v := 1) hx hb dL_law_1910 (by decide) ?_
  refine lv_iadd hx hb dL_law_1911 ?_
  refine va_sld hx hb hX hbl hbA hS (lw_ix hi hL (rg_c (v := 1) (lo := 1) (hi := 1) (by decide)) (by decide)) dL_law_1912 ?_
  refine lv_aload_n hx hb dL_law_1913 rfl (lv_at hl 3 rfl) ?_
  refine lv_iload_n hx hb dL_law_1914 rfl (lv_at hl 0 rfl) ?_
  refine lv_iconst (v := 2) hx hb dL_law_1915 (by decide) ?_
  refine lv_iadd hx hb dL_law_1916 ?_
  refine va_sld hx hb hX hbl hbA hS (lw_ix hi hL (rg_c (v := 2) (lo := 2) (hi := 2) (by decide)) (by decide)) dL_law_1917 ?_
  refine lv_aload_n hx hb dL_law_1918 rfl (lv_at hl 3 rfl) ?_
  refine lv_iload_n hx hb dL_law_1919 rfl (lv_at hl 0 rfl) ?_
  refine lv_iconst (v := 3) hx hb dL_law_1920 (by decide) ?_
  refine lv_iadd hx hb dL_law_1921 ?_
  refine va_sld hx hb hX hbl hbA hS (lw_ix hi hL (rg_c (v := 3) (lo := 3) (hi := 3) (by decide)) (by decide)) dL_law_1922 ?_
  refine lv_aload_n hx hb dL_law_1923 rfl (lv_at hl 3 rfl) ?_
  refine lv_iload_n hx hb dL_law_1924 rfl (lv_at hl 0 rfl) ?_
  refine lv_iconst (v := 4) hx hb dL_law_1925 (by decide) ?_
  refine lv_iadd hx hb dL_law_1926 ?_
  refine va_sld hx hb hX hbl hbA hS (lw_ix hi hL (rg_c (v := 4) (lo := 4) (hi := 4) (by decide)) (by decide)) dL_law_1927 ?_
  refine lw_cX (As := [.int (xs ((nI i) + 1).toNatClampNeg), .int (xs ((nI i) + 2).toNatClampNeg), .int (xs ((nI i) + 3).toNatClampNeg), .int (xs ((nI i) + 4).toNatClampNeg)]) (rest := []) ⟨hx, hb, hml, hown, htg⟩ (e2_X6_begin l D E G _ a C hT (xs ((nI i) + 1).toNatClampNeg) (xs ((nI i) + 2).toNatClampNeg) (xs ((nI i) + 3).toNatClampNeg) (xs ((nI i) + 4).toNatClampNeg)) (cwV 4 htg (oh_gV q_904 q_905 q_906 q_66 q_907) rfl rfl rfl pdVX6_begin ⟨Nat.le_of_ble_eq_true rfl, Nat.le_of_ble_eq_true rfl⟩) hK hP hD hG hS hA (va_recv hK (oh_pre_P hP) (ci := 6) (q0 := 0) rfl (oh_wg (by decide) (sX_0 hT))) rfl hl.1 rfl (Nat.le_of_ble_eq_true rfl) dL_law_1928 ⟨show cN + 0 ≤ 600000 by omega, show sN + 0 ≤ 7302250 by omega⟩ (fun r_1 C_3 H locs hq_2 hP hD hS => ?_)
  obtain ⟨hT, f_4, hq_2⟩ := hq_2
  have ht1 : gi (C_3 5) 1 = gi (M 0) 7 := by rw [f_4.1 5 rfl (by decide)]; exact ht1
  have ht2 : gi (C_3 0) 2 = 0 ↔ n = 74 := by rw [show gi (C_3 0) 2 = gi (C 0) 2 from congrArg vi (f_4.2 2 (by decide))]; exact ht2
  have ht3 : ga (C_3 32) = ga (M 7) := Eq.trans (congrArg ga (f_4.1 32 rfl (by decide))) ht3
  have htK := htK.x (fr_all f_4 17 23 (by decide)) (f_4.1 2 rfl (by decide))
  have hX_5 := hq_2.1 A0 hAX0
  have hAX : absX 10 C_3 A0 := absX_eq hAX (fun k k1 k2 => fr_all f_4 10 15 (by decide) k k1 (by omega))
  have hUX := hq_2.2 A0 T0 hAX0 hUX
  have hEX := ex_eq hEX (f_4.1 31 rfl (by decide))
  have hSX : absHX C_3 S0 := hx_fr hSX (f_4.1 29 rfl (by decide)) (f_4.1 30 rfl (by decide))
  refine W.widen (k := cN) (n := sN) (Nat.le_refl _) (Nat.le_refl _) ?_
  refine lv_pop hx hb dL_law_1931 rfl ?_
  refine lv_aload_n hx hb dL_law_1932 rfl (lv_at hl 1 rfl) ?_
  refine lv_aload_n hx hb dL_law_1933 rfl (lv_at hl 3 rfl) ?_
  refine lv_iload_n hx hb dL_law_1934 rfl (lv_at hl 0 rfl) ?_
  refine lv_iconst (v := 1) hx hb dL_law_1935 (by decide) ?_
  refine lv_iadd hx hb dL_law_1936 ?_
  refine va_sld hx hb hX hbl hbA hS (lw_ix hi hL (rg_c (v := 1) (lo := 1) (hi := 1) (by decide)) (by decide)) dL_law_1937 ?_
  refine lv_aload_n hx hb dL_law_1938 rfl (lv_at hl 3 rfl) ?_
  refine lv_iload_n hx hb dL_law_1939 rfl (lv_at hl 0 rfl) ?_
  refine lv_iconst (v := 2) hx hb dL_law_1940 (by decide) ?_
  refine lv_iadd hx hb dL_law_1941 ?_
  refine va_sld hx hb hX hbl hbA hS (lw_ix hi hL (rg_c (v := 2) (lo := 2) (hi := 2) (by decide)) (by decide)) dL_law_1942 ?_
  refine lv_aload_n hx hb dL_law_1943 rfl (lv_at hl 3 rfl) ?_
  refine lv_iload_n hx hb dL_law_1944 rfl (lv_at hl 0 rfl) ?_
  refine lv_iconst (v := 3) hx hb dL_law_1945 (by decide) ?_
  refine lv_iadd hx hb dL_law_1946 ?_
  refine va_sld hx hb hX hbl hbA hS (lw_ix hi hL (rg_c (v := 3) (lo := 3) (hi := 3) (by decide)) (by decide)) dL_law_1947 ?_
  refine lv_aload_n hx hb dL_law_1948 rfl (lv_at hl 3 rfl) ?_
  refine lv_iload_n hx hb dL_law_1949 rfl (lv_at hl 0 rfl) ?_
  refine lv_iconst (v := 4) hx hb dL_law_1950 (by decide) ?_
  refine lv_iadd hx hb dL_law_1951 ?_
  refine va_sld hx hb hX hbl hbA hS (lw_ix hi hL (rg_c (v := 4) (lo := 4) (hi := 4) (by decide)) (by decide)) dL_law_1952 ?_
  refine lw_cM (As := [.int (xs ((nI i) + 1).toNatClampNeg), .int (xs ((nI i) + 2).toNatClampNeg), .int (xs ((nI i) + 3).toNatClampNeg), .int (xs ((nI i) + 4).toNatClampNeg)]) (rest := []) ⟨hx, hb, hml, hown, htg⟩ (e2_X7_begin l D E G _ ma M n hn hTM (xs ((nI i) + 1).toNatClampNeg) (xs ((nI i) + 2).toNatClampNeg) (xs ((nI i) + 3).toNatClampNeg) (xs ((nI i) + 4).toNatClampNeg) hR) (cwV 4 htg (oh_gV q_1409 q_1410 q_1411 q_73 q_1412) rfl rfl rfl pdVX7_begin ⟨Nat.le_of_ble_eq_true rfl, Nat.le_of_ble_eq_true rfl⟩) hK hP hD hG hS hA (va_recv hK (oh_suf_P hP) (ci := 7) (q0 := 0) rfl (oh_wg (by omega) (sM_0 hTM))) rfl hl.1 rfl (Nat.le_of_ble_eq_true rfl) dL_law_1953 ⟨show cN + 0 ≤ 600000 by omega, show sN + 0 ≤ 7302250 by omega⟩ (fun r_6 M_8 H locs hq_7 hP hD hS => ?_)
  have hTM0 := hTM
  obtain ⟨hTM, f_9, hR, hq_7⟩ := hq_7
  have hkp := kept_fr hkp f_9 (by decide)
  have ht1 : gi (C_3 5) 1 = gi (M_8 0) 7 := by rw [show gi (M_8 0) 7 = gi (M 0) 7 from congrArg vi (f_9.2 7 (by decide))]; exact ht1
  have ht3 : ga (C_3 32) = ga (M_8 7) := Eq.trans ht3 (congrArg ga (f_9.1 7 rfl (by decide))).symm
  have htK := htK.m f_9 (by decide)
  have hM_10 := hq_7.1 A0 hAM0
  have hAM : absM M_8 A0 := absM_fr hAM hTM0 f_9 (by decide) (by decide) (by decide)
  have hUM := hq_7.2 A0 T0 hAM0 hUM
  have hEM := em_eq hEM (fun s hs => f_9.1 (16 + s) (inR_out hs (by decide)) (by omega))
  have hSM : absHM M_8 S0 := hm_fr hSM (f_9.1 1 rfl (by decide)) (f_9.1 2 rfl (by decide)) (f_9.1 3 rfl (by decide)) (f_9.1 6 rfl (by decide))
  refine W.widen (k := cN) (n := sN) (Nat.le_refl _) (Nat.le_refl _) ?_
  refine lv_pop hx hb dL_law_1956 rfl ?_
  refine lv_goto (tgt := 2045) hx hb dL_law_1957 (by decide) ?_
  exact kk ma C_3 M_8 n (cN) (sN) H locs ls hT hTM hR hkp ht1 ht2 ht3 ⟨_, _, hAX, hAM, hok, hUX, hUM, _, _, hSX, hSM, hEX, hEM⟩ htK (by omega) (by omega) hP hD hS hl

set_option maxHeartbeats 4000000 in
set_option maxRecDepth 100000 in
/-- the law at a call of step -/
theorem lc_step {p : Program} {e : Env} {s : State} {m : MethodId} {below : List Frame} {meth : Method} {c : Code} (l : Launch) {b L : Nat} {xs : Nat → Int32} (C0 : lw_At p s m meth c b L xs) (hL : L ≤ 4096) {D : va_G} {E : Nat → ClassId} {G : Nat → Nat} {A : Nat → Prop} (hAe : A = fun q => s.heap.size ≤ q) (hK : va_K D vwCl (oh_ty E) s) (hG : oh_G G A s) {a : Nat → Nat} {i : Nat} (hi : i + 8 ≤ L) {ma : Nat → Nat} {C M : Nat → va_E} {n cN sN : Nat} (hT : TyX a E C) (hTM : TyM ma E M) (hR : RelM M) (hkp : KEPT E n ma M) (ht1 : gi (C 5) 1 = gi (M 0) 7) (ht2 : gi (C 0) 2 = 0 ↔ n = 74) (ht3 : ga (C 32) = ga (M 7)) (htA : ∃ (A0 : LA) (T0 : TP), absX 10 C A0 ∧ absM M A0 ∧ okA A0 ∧ absTX 1 16 C T0 ∧ absTM M T0 ∧ ∃ (S0 : HZ) (Z0 : EZ), absHX C S0 ∧ absHM M S0 ∧ absEX C S0 Z0 ∧ absEM M S0 Z0) (htK : TIEK n C M) (hcN : cN ≤ 35 + n) (hsN : sN ≤ 1477 + 16 * n) {H : Heap} {locs : List Loc} (hP : va_P D vwCl (oh_W 35 a C ++ oh_W n ma M) H) (hD : va_D A (oh_W 35 a C ++ oh_W n ma M)) (hS : va_S A s.heap H locs) {ls : Array Slot} (hl : lv_has ls 4 [(3, .int (nI i)), (2, .ref (ma 0)), (1, .ref (a 0)), (0, .ref b)]) (kk : ∀ (ma : Nat → Nat) (C M : Nat → va_E) (n cN sN : Nat) (H : Heap) (locs : List Loc) (ls : Array Slot), TyX a E C → TyM ma E M → RelM M → KEPT E n ma M → gi (C 5) 1 = gi (M 0) 7 → (gi (C 0) 2 = 0 ↔ n = 74) → ga (C 32) = ga (M 7) → (∃ (A0 : LA) (T0 : TP), absX 10 C A0 ∧ absM M A0 ∧ okA A0 ∧ absTX 1 16 C T0 ∧ absTM M T0 ∧ ∃ (S0 : HZ) (Z0 : EZ), absHX C S0 ∧ absHM M S0 ∧ absEX C S0 Z0 ∧ absEM M S0 Z0) → TIEK n C M → cN ≤ 35 + n → sN ≤ 1477 + 16 * n → va_P D vwCl (oh_W 35 a C ++ oh_W n ma M) H → va_D A (oh_W 35 a C ++ oh_W n ma M) → va_S A s.heap H locs → lv_has ls 4 [(3, .int (nI i)), (2, .ref (ma 0)), (1, .ref (a 0)), (0, .ref b)] → W p l e room_1 s m #[Value.ref b] below meth c H locs cN sN (lw_Z below #[Value.ref b] s) (F0 m 2045 ls [])) : W p l e room_1 s m #[Value.ref b] below meth c H locs cN sN (lw_Z below #[Value.ref b] s) (F0 m 1960 ls []) := by
  obtain ⟨hx, hb, hr, hml, hown, hts, hX, hbl, hlocks, hgv⟩ := id C0
  have hown : s.vm.findClass RL = some m.cls := hown
  have htg : ∀ w ∈ oh_t, w.before _ s = true := fun w h => hts w (List.mem_filter.mp h).1
  have hA : ∀ q, s.heap.size ≤ q → A q := fun q h => by rw [hAe]; exact h
  have hbA : ¬ A b := by rw [hAe]; exact Nat.not_le.mpr hbl
  have hn := hkp.le.1
  have hn8 := hkp.le.2
  have ht10 := ht1
  have ht20 := ht2
  have ht30 := ht3
  obtain ⟨A0, T0, hAX, hAM, hok, hUX, hUM, S0, Z0, hSX, hSM, hEX, hEM⟩ := htA
  have hAX0 := hAX
  have hAM0 := hAM
  have htK0 := htK
  have hSX0 := hSX
  have hSM0 := hSM
  have hEX0 := hEX
  have hEM0 := hEM
  have hUX0 := hUX
  refine lv_aload_n hx hb dL_law_1960 rfl (lv_at hl 2 rfl) ?_
  refine lw_cX (As := []) (rest := []) ⟨hx, hb, hml, hown, htg⟩ (e2_X6_step l D E G _ a C hT) (cwV 0 htg (oh_gV q_912 q_913 q_914 q_66 q_915) rfl rfl rfl pdVX6_step ⟨Nat.le_of_ble_eq_true rfl, Nat.le_of_ble_eq_true rfl⟩) hK hP hD hG hS hA (va_recv hK (oh_pre_P hP) (ci := 6) (q0 := 0) rfl (oh_wg (by decide) (sX_0 hT))) rfl hl.1 rfl (Nat.le_of_ble_eq_true rfl) dL_law_1961 ⟨show cN + 0 ≤ 600000 by omega, show sN + 0 ≤ 7302250 by omega⟩ (fun r_1 C_3 H locs hq_2 hP hD hS => ?_)
  obtain ⟨hT, f_4, hq_2⟩ := hq_2
  have ht1 : gi (C_3 5) 1 = gi (M 0) 7 := by rw [f_4.1 5 rfl (by decide)]; exact ht1
  have ht2 : gi (C_3 0) 2 = 0 ↔ n = 74 := by rw [show gi (C_3 0) 2 = gi (C 0) 2 from congrArg vi (f_4.2 2 (by decide))]; exact ht2
  have ht3 : ga (C_3 32) = ga (M 7) := Eq.trans (congrArg ga (f_4.1 32 rfl (by decide))) ht3
  have htK := htK.x (fr_all f_4 17 23 (by decide)) (f_4.1 2 rfl (by decide))
  obtain ⟨B1, U1, hs_5, hAX, hUX⟩ := hq_2 A0 T0 hAX hok hUX (relT hR hAM hUM)
  have hEX := ex_eq hEX (f_4.1 31 rfl (by decide))
  have hSX : absHX C_3 S0 := hx_fr hSX (f_4.1 29 rfl (by decide)) (f_4.1 30 rfl (by decide))
  refine W.widen (k := cN) (n := sN) (Nat.le_refl _) (Nat.le_refl _) ?_
  refine lv_pop hx hb dL_law_1964 rfl ?_
  refine lv_aload_n hx hb dL_law_1965 rfl (lv_at hl 1 rfl) ?_
  refine lw_cM (As := []) (rest := []) ⟨hx, hb, hml, hown, htg⟩ (e2_X7_step l D E G _ ma M n hn hTM hR) (cwV 0 htg (oh_gV q_1413 q_1414 q_1415 q_73 q_1416) rfl rfl rfl pdVX7_step ⟨Nat.le_of_ble_eq_true rfl, Nat.le_of_ble_eq_true rfl⟩) hK hP hD hG hS hA (va_recv hK (oh_suf_P hP) (ci := 7) (q0 := 0) rfl (oh_wg (by omega) (sM_0 hTM))) rfl hl.1 rfl (Nat.le_of_ble_eq_true rfl) dL_law_1966 ⟨show cN + 0 ≤ 600000 by omega, show sN + 0 ≤ 7302250 by omega⟩ (fun r_6 M_8 H locs hq_7 hP hD hS => ?_)
  have hTM0 := hTM
  obtain ⟨hTM, f_9, hR, hq_7⟩ := hq_7
  have hkp := kept_fr hkp f_9 (by decide)
  have ht1 : gi (C_3 5) 1 = gi (M_8 0) 7 := by rw [show gi (M_8 0) 7 = gi (M 0) 7 from congrArg vi (f_9.2 7 (by decide))]; exact ht1
  have ht3 : ga (C_3 32) = ga (M_8 7) := Eq.trans ht3 (congrArg ga (f_9.1 7 rfl (by decide))).symm
  have htK := htK.m f_9 (by decide)
  obtain ⟨B2, U2, hs_10, hAM, hUM⟩ := hq_7 A0 T0 hAM hok hUM
  obtain ⟨hB_11, hBB, hUU⟩ := stpA_u hok hs_5 hs_10
  subst hBB hUU
  have hok := ok_step hok hs_5
  have hEM := em_eq hEM (fun s hs => f_9.1 (16 + s) (inR_out hs (by decide)) (by omega))
  have hSM : absHM M_8 S0 := hm_fr hSM (f_9.1 1 rfl (by decide)) (f_9.1 2 rfl (by decide)) (f_9.1 3 rfl (by decide)) (f_9.1 6 rfl (by decide))
  refine W.widen (k := cN) (n := sN) (Nat.le_refl _) (Nat.le_refl _) ?_
  refine lv_pop hx hb dL_law_1969 rfl ?_
  refine lv_goto (tgt := 2045) hx hb dL_law_1970 (by decide) ?_
  exact kk ma C_3 M_8 n (cN) (sN) H locs ls hT hTM hR hkp ht1 ht2 ht3 ⟨_, _, hAX, hAM, hok, hUX, hUM, _, _, hSX, hSM, hEX, hEM⟩ htK (by omega) (by omega) hP hD hS hl

set_option maxHeartbeats 4000000 in
set_option maxRecDepth 100000 in
/-- the law at a call of under -/
theorem lc_under {p : Program} {e : Env} {s : State} {m : MethodId} {below : List Frame} {meth : Method} {c : Code} (l : Launch) {b L : Nat} {xs : Nat → Int32} (C0 : lw_At p s m meth c b L xs) (hL : L ≤ 4096) {D : va_G} {E : Nat → ClassId} {G : Nat → Nat} {A : Nat → Prop} (hAe : A = fun q => s.heap.size ≤ q) (hK : va_K D vwCl (oh_ty E) s) (hG : oh_G G A s) {a : Nat → Nat} {i : Nat} (hi : i + 8 ≤ L) {ma : Nat → Nat} {C M : Nat → va_E} {n cN sN : Nat} (hT : TyX a E C) (hTM : TyM ma E M) (hR : RelM M) (hkp : KEPT E n ma M) (ht1 : gi (C 5) 1 = gi (M 0) 7) (ht2 : gi (C 0) 2 = 0 ↔ n = 74) (ht3 : ga (C 32) = ga (M 7)) (htA : ∃ (A0 : LA) (T0 : TP), absX 10 C A0 ∧ absM M A0 ∧ okA A0 ∧ absTX 1 16 C T0 ∧ absTM M T0 ∧ ∃ (S0 : HZ) (Z0 : EZ), absHX C S0 ∧ absHM M S0 ∧ absEX C S0 Z0 ∧ absEM M S0 Z0) (htK : TIEK n C M) (hcN : cN ≤ 35 + n) (hsN : sN ≤ 1477 + 16 * n) {H : Heap} {locs : List Loc} (hP : va_P D vwCl (oh_W 35 a C ++ oh_W n ma M) H) (hD : va_D A (oh_W 35 a C ++ oh_W n ma M)) (hS : va_S A s.heap H locs) {ls : Array Slot} (hl : lv_has ls 4 [(3, .int (nI i)), (2, .ref (ma 0)), (1, .ref (a 0)), (0, .ref b)]) (kk : ∀ (ma : Nat → Nat) (C M : Nat → va_E) (n cN sN : Nat) (H : Heap) (locs : List Loc) (ls : Array Slot), TyX a E C → TyM ma E M → RelM M → KEPT E n ma M → gi (C 5) 1 = gi (M 0) 7 → (gi (C 0) 2 = 0 ↔ n = 74) → ga (C 32) = ga (M 7) → (∃ (A0 : LA) (T0 : TP), absX 10 C A0 ∧ absM M A0 ∧ okA A0 ∧ absTX 1 16 C T0 ∧ absTM M T0 ∧ ∃ (S0 : HZ) (Z0 : EZ), absHX C S0 ∧ absHM M S0 ∧ absEX C S0 Z0 ∧ absEM M S0 Z0) → TIEK n C M → cN ≤ 35 + n → sN ≤ 1477 + 16 * n → va_P D vwCl (oh_W 35 a C ++ oh_W n ma M) H → va_D A (oh_W 35 a C ++ oh_W n ma M) → va_S A s.heap H locs → lv_has ls 4 [(3, .int (nI i)), (2, .ref (ma 0)), (1, .ref (a 0)), (0, .ref b)] → W p l e room_1 s m #[Value.ref b] below meth c H locs cN sN (lw_Z below #[Value.ref b] s) (F0 m 2045 ls [])) : W p l e room_1 s m #[Value.ref b] below meth c H locs cN sN (lw_Z below #[Value.ref b] s) (F0 m 1973 ls []) := by
  obtain ⟨hx, hb, hr, hml, hown, hts, hX, hbl, hlocks, hgv⟩ := id C0
  have hown : s.vm.findClass RL = some m.cls := hown
  have htg : ∀ w ∈ oh_t, w.before _ s = true := fun w h => hts w (List.mem_filter.mp h).1
  have hA : ∀ q, s.heap.size ≤ q → A q := fun q h => by rw [hAe]; exact h
  have hbA : ¬ A b := by rw [hAe]; exact Nat.not_le.mpr hbl
  have hn := hkp.le.1
  have hn8 := hkp.le.2
  have ht10 := ht1
  have ht20 := ht2
  have ht30 := ht3
  obtain ⟨A0, T0, hAX, hAM, hok, hUX, hUM, S0, Z0, hSX, hSM, hEX, hEM⟩ := htA
  have hAX0 := hAX
  have hAM0 := hAM
  have htK0 := htK
  have hSX0 := hSX
  have hSM0 := hSM
  have hEX0 := hEX
  have hEM0 := hEM
  have hUX0 := hUX
  refine lv_aload_n hx hb dL_law_1973 rfl (lv_at hl 2 rfl) ?_
  refine lv_aload_n hx hb dL_law_1974 rfl (lv_at hl 3 rfl) ?_
  refine lv_iload_n hx hb dL_law_1975 rfl (lv_at hl 0 rfl) ?_
  refine lv_iconst (v := 1) hx hb dL_law_1976 (by decide) ?_
  refine lv_iadd hx hb dL_law_1977 ?_
  refine va_sld hx hb hX hbl hbA hS (lw_ix hi hL (rg_c (v := 1) (lo := 1) (hi := 1) (by decide)) (by decide)) dL_law_1978 ?_
  refine lw_cX (As := [.int (xs ((nI i) + 1).toNatClampNeg)]) (rest := []) ⟨hx, hb, hml, hown, htg⟩ (e_X6_under l D E G _ a C hT (xs ((nI i) + 1).toNatClampNeg)) (cwV 1 htg (oh_gV q_929 q_930 q_931 q_66 q_932) rfl rfl rfl pdVX6_under ⟨Nat.le_of_ble_eq_true rfl, Nat.le_of_ble_eq_true rfl⟩) hK hP hD hG hS hA (va_recv hK (oh_pre_P hP) (ci := 6) (q0 := 0) rfl (oh_wg (by decide) (sX_0 hT))) rfl hl.1 rfl (Nat.le_of_ble_eq_true rfl) dL_law_1979 ⟨show cN + 0 ≤ 600000 by omega, show sN + 0 ≤ 7302250 by omega⟩ (fun r_1 C_3 H locs hq_2 hP hD hS => ?_)
  obtain ⟨hT, f_4, hq_2⟩ := hq_2
  have ht1 : gi (C_3 5) 1 = gi (M 0) 7 := by rw [f_4.1 5 rfl (by decide)]; exact ht1
  have ht2 : gi (C_3 0) 2 = 0 ↔ n = 74 := by rw [show gi (C_3 0) 2 = gi (C 0) 2 from congrArg vi (f_4.2 2 (by decide))]; exact ht2
  have ht3 : ga (C_3 32) = ga (M 7) := Eq.trans (congrArg ga (f_4.1 32 rfl (by decide))) ht3
  have htK := htK.x (fr_all f_4 17 23 (by decide)) (f_4.1 2 rfl (by decide))
  have hX_5 := hq_2 T0 hUX
  have hAX : absX 10 C_3 A0 := absX_eq hAX (fun k k1 k2 => fr_all f_4 10 15 (by decide) k k1 (by omega))
  have hUX : absTX 1 16 C_3 T0 := absTX_eq hUX (congrArg (fun z => gi z 7) (f_4.1 1 rfl (by decide))) (f_4.1 16 rfl (by decide))
  have hEX := ex_eq hEX (f_4.1 31 rfl (by decide))
  have hSX : absHX C_3 S0 := hx_fr hSX (f_4.1 29 rfl (by decide)) (f_4.1 30 rfl (by decide))
  refine W.widen (k := cN) (n := sN) (Nat.le_refl _) (Nat.le_refl _) ?_
  refine lv_pop hx hb dL_law_1982 rfl ?_
  refine lv_aload_n hx hb dL_law_1983 rfl (lv_at hl 1 rfl) ?_
  refine lv_aload_n hx hb dL_law_1984 rfl (lv_at hl 3 rfl) ?_
  refine lv_iload_n hx hb dL_law_1985 rfl (lv_at hl 0 rfl) ?_
  refine lv_iconst (v := 1) hx hb dL_law_1986 (by decide) ?_
  refine lv_iadd hx hb dL_law_1987 ?_
  refine va_sld hx hb hX hbl hbA hS (lw_ix hi hL (rg_c (v := 1) (lo := 1) (hi := 1) (by decide)) (by decide)) dL_law_1988 ?_
  refine lw_cM (As := [.int (xs ((nI i) + 1).toNatClampNeg)]) (rest := []) ⟨hx, hb, hml, hown, htg⟩ (e_X7_under l D E G _ ma M n hn hTM (xs ((nI i) + 1).toNatClampNeg) hR) (cwV 1 htg (oh_gV q_1417 q_1418 q_1419 q_73 q_1420) rfl rfl rfl pdVX7_under ⟨Nat.le_of_ble_eq_true rfl, Nat.le_of_ble_eq_true rfl⟩) hK hP hD hG hS hA (va_recv hK (oh_suf_P hP) (ci := 7) (q0 := 0) rfl (oh_wg (by omega) (sM_0 hTM))) rfl hl.1 rfl (Nat.le_of_ble_eq_true rfl) dL_law_1989 ⟨show cN + 0 ≤ 600000 by omega, show sN + 0 ≤ 7302250 by omega⟩ (fun r_6 M_8 H locs hq_7 hP hD hS => ?_)
  have hTM0 := hTM
  obtain ⟨hTM, f_9, hR, hq_7⟩ := hq_7
  have hkp := kept_fr hkp f_9 (by decide)
  have ht1 : gi (C_3 5) 1 = gi (M_8 0) 7 := by rw [show gi (M_8 0) 7 = gi (M 0) 7 from congrArg vi (f_9.2 7 (by decide))]; exact ht1
  have ht3 : ga (C_3 32) = ga (M_8 7) := Eq.trans ht3 (congrArg ga (f_9.1 7 rfl (by decide))).symm
  have htK := htK.m f_9 (by decide)
  have hM_10 := hq_7 T0 hUM
  have hAM : absM M_8 A0 := absM_fr hAM hTM0 f_9 (by decide) (by decide) (by decide)
  have hUM : absTM M_8 T0 := absTM_eq hUM (f_9.1 14 rfl (by decide)) (congrArg vi (f_9.2 19 (by decide)))
  have hEM := em_eq hEM (fun s hs => f_9.1 (16 + s) (inR_out hs (by decide)) (by omega))
  have hSM : absHM M_8 S0 := hm_fr hSM (f_9.1 1 rfl (by decide)) (f_9.1 2 rfl (by decide)) (f_9.1 3 rfl (by decide)) (f_9.1 6 rfl (by decide))
  refine W.widen (k := cN) (n := sN) (Nat.le_refl _) (Nat.le_refl _) ?_
  refine lv_pop hx hb dL_law_1992 rfl ?_
  refine lv_goto (tgt := 2045) hx hb dL_law_1993 (by decide) ?_
  exact kk ma C_3 M_8 n (cN) (sN) H locs ls hT hTM hR hkp ht1 ht2 ht3 ⟨_, _, hAX, hAM, hok, hUX, hUM, _, _, hSX, hSM, hEX, hEM⟩ htK (by omega) (by omega) hP hD hS hl

set_option maxHeartbeats 4000000 in
set_option maxRecDepth 100000 in
/-- the law at a call of image -/
theorem lc_image {p : Program} {e : Env} {s : State} {m : MethodId} {below : List Frame} {meth : Method} {c : Code} (l : Launch) {b L : Nat} {xs : Nat → Int32} (C0 : lw_At p s m meth c b L xs) (hL : L ≤ 4096) {D : va_G} {E : Nat → ClassId} {G : Nat → Nat} {A : Nat → Prop} (hAe : A = fun q => s.heap.size ≤ q) (hK : va_K D vwCl (oh_ty E) s) (hG : oh_G G A s) {a : Nat → Nat} {i : Nat} (hi : i + 8 ≤ L) {ma : Nat → Nat} {C M : Nat → va_E} {n cN sN : Nat} (hT : TyX a E C) (hTM : TyM ma E M) (hR : RelM M) (hkp : KEPT E n ma M) (ht1 : gi (C 5) 1 = gi (M 0) 7) (ht2 : gi (C 0) 2 = 0 ↔ n = 74) (ht3 : ga (C 32) = ga (M 7)) (htA : ∃ (A0 : LA) (T0 : TP), absX 10 C A0 ∧ absM M A0 ∧ okA A0 ∧ absTX 1 16 C T0 ∧ absTM M T0 ∧ ∃ (S0 : HZ) (Z0 : EZ), absHX C S0 ∧ absHM M S0 ∧ absEX C S0 Z0 ∧ absEM M S0 Z0) (htK : TIEK n C M) (hcN : cN ≤ 35 + n) (hsN : sN ≤ 1477 + 16 * n) {H : Heap} {locs : List Loc} (hP : va_P D vwCl (oh_W 35 a C ++ oh_W n ma M) H) (hD : va_D A (oh_W 35 a C ++ oh_W n ma M)) (hS : va_S A s.heap H locs) {ls : Array Slot} (hl : lv_has ls 4 [(3, .int (nI i)), (2, .ref (ma 0)), (1, .ref (a 0)), (0, .ref b)]) (kk : ∀ (ma : Nat → Nat) (C M : Nat → va_E) (n cN sN : Nat) (H : Heap) (locs : List Loc) (ls : Array Slot), TyX a E C → TyM ma E M → RelM M → KEPT E n ma M → gi (C 5) 1 = gi (M 0) 7 → (gi (C 0) 2 = 0 ↔ n = 74) → ga (C 32) = ga (M 7) → (∃ (A0 : LA) (T0 : TP), absX 10 C A0 ∧ absM M A0 ∧ okA A0 ∧ absTX 1 16 C T0 ∧ absTM M T0 ∧ ∃ (S0 : HZ) (Z0 : EZ), absHX C S0 ∧ absHM M S0 ∧ absEX C S0 Z0 ∧ absEM M S0 Z0) → TIEK n C M → cN ≤ 35 + n → sN ≤ 1477 + 16 * n → va_P D vwCl (oh_W 35 a C ++ oh_W n ma M) H → va_D A (oh_W 35 a C ++ oh_W n ma M) → va_S A s.heap H locs → lv_has ls 4 [(3, .int (nI i)), (2, .ref (ma 0)), (1, .ref (a 0)), (0, .ref b)] → W p l e room_1 s m #[Value.ref b] below meth c H locs cN sN (lw_Z below #[Value.ref b] s) (F0 m 2045 ls [])) : W p l e room_1 s m #[Value.ref b] below meth c H locs cN sN (lw_Z below #[Value.ref b] s) (F0 m 1996 ls []) := by
  obtain ⟨hx, hb, hr, hml, hown, hts, hX, hbl, hlocks, hgv⟩ := id C0
  have hown : s.vm.findClass RL = some m.cls := hown
  have htg : ∀ w ∈ oh_t, w.before _ s = true := fun w h => hts w (List.mem_filter.mp h).1
  have hA : ∀ q, s.heap.size ≤ q → A q := fun q h => by rw [hAe]; exact h
  have hbA : ¬ A b := by rw [hAe]; exact Nat.not_le.mpr hbl
  have hn := hkp.le.1
  have hn8 := hkp.le.2
  have ht10 := ht1
  have ht20 := ht2
  have ht30 := ht3
  obtain ⟨A0, T0, hAX, hAM, hok, hUX, hUM, S0, Z0, hSX, hSM, hEX, hEM⟩ := htA
  have hAX0 := hAX
  have hAM0 := hAM
  have htK0 := htK
  have hSX0 := hSX
  have hSM0 := hSM
  have hEX0 := hEX
  have hEM0 := hEM
  have hUX0 := hUX
  refine lv_aload_n hx hb dL_law_1996 rfl (lv_at hl 2 rfl) ?_
  refine lw_cX (As := []) (rest := []) ⟨hx, hb, hml, hown, htg⟩ (e2_X6_image l D E G _ a C hT) (cwV 0 htg (oh_gV q_933 q_934 q_935 q_66 q_936) rfl rfl rfl pdVX6_image ⟨Nat.le_of_ble_eq_true rfl, Nat.le_of_ble_eq_true rfl⟩) hK hP hD hG hS hA (va_recv hK (oh_pre_P hP) (ci := 6) (q0 := 0) rfl (oh_wg (by decide) (sX_0 hT))) rfl hl.1 rfl (Nat.le_of_ble_eq_true rfl) dL_law_1997 ⟨show cN + 0 ≤ 600000 by omega, show sN + 0 ≤ 7302250 by omega⟩ (fun r_1 C_3 H locs hq_2 hP hD hS => ?_)
  obtain ⟨hT, f_4, hq_2⟩ := hq_2
  have ht1 : gi (C_3 5) 1 = gi (M 0) 7 := by rw [f_4.1 5 rfl (by decide)]; exact ht1
  have ht3 : ga (C_3 32) = ga (M 7) := Eq.trans (congrArg ga (f_4.1 32 rfl (by decide))) ht3
  have hAX : absX 10 C_3 A0 := absX_eq hAX (fun k k1 k2 => fr_all f_4 10 15 (by decide) k k1 (by omega))
  have hUX : absTX 1 16 C_3 T0 := absTX_eq hUX (congrArg (fun z => gi z 7) (f_4.1 1 rfl (by decide))) (f_4.1 16 rfl (by decide))
  have hEX := ex_eq hEX (f_4.1 31 rfl (by decide))
  have hSX : absHX C_3 S0 := hx_fr hSX (f_4.1 29 rfl (by decide)) (f_4.1 30 rfl (by decide))
  refine W.widen (k := cN) (n := sN) (Nat.le_refl _) (Nat.le_refl _) ?_
  refine lv_pop hx hb dL_law_2000 rfl ?_
  refine lv_aload_n hx hb dL_law_2001 rfl (lv_at hl 1 rfl) ?_
  have hTM0 := hTM
  rcases hkp with ⟨en, hkn⟩ | ⟨en, hkr, hTk, hRk⟩
  · subst en
    refine lw_cM (As := []) (rest := []) ⟨hx, hb, hml, hown, htg⟩ (c_X7_image_n l D E G _ ma M hTM hR hkn) (cwV 0 htg (oh_gV q_1421 q_1422 q_1423 q_73 q_1424) rfl rfl rfl pdVX7_image ⟨Nat.le_of_ble_eq_true rfl, Nat.le_of_ble_eq_true rfl⟩) hK hP hD hG hS hA (va_recv hK (oh_suf_P hP) (ci := 7) (q0 := 0) rfl (oh_wg (by omega) (sM_0 hTM))) rfl hl.1 rfl (Nat.le_of_ble_eq_true rfl) dL_law_2002 ⟨show cN + 74 ≤ 600000 by omega, show sN + 1116 ≤ 7302250 by omega⟩ (fun r_5 u_7 H locs hq_6 hP hD hS => ?_)
    obtain ⟨ma2, M2⟩ := u_7
    obtain ⟨ea2, hTM, hR, hk20, hTk, hRk, h7, hcA, hcF, hcK, hcT, hq_6⟩ := hq_6
    have ht3 : ga (C_3 32) = ga (M2 7) := Eq.trans ht3 (congrArg ga (hcA 7 (by decide) (by decide))).symm
    have htK : TIEK 148 C_3 M2 := Or.inr ⟨A0, T0, hq_2.2.1 A0 hAX0, hcK A0 hAM, hok, hq_2.2.2 T0 hUX0, hcT T0 hUM⟩
    have hUM : absTM M2 T0 := absTM_eq hUM (hcA 14 (by decide) (by decide)) (congrArg vi (hcF 19 (by decide)))
    have hAM : absM M2 A0 := absM_n hAM hTM0 hcA hcF
    have hSM : absHM M2 S0 := hm_fr hSM (hcA 1 (by decide) (by decide)) (hcA 2 (by decide) (by decide)) (hcA 3 (by decide) (by decide)) (hcA 6 (by decide) (by decide))
    have hEM : absEM M2 S0 Z0 := em_eq hEM (fun s hs => hcA (16 + s) (by omega) (by omega))
    have hkp : KEPT E 148 ma2 M2 := Or.inr ⟨rfl, hk20, hTk, hRk⟩
    refine W.widen (k := cN + 74) (n := sN + 1116) (Nat.le_refl _) (Nat.le_refl _) ?_
    have em : ma 0 = ma2 0 := (ea2 0 (by decide)).symm
    rw [em] at hl
    have ht1 : gi (C_3 5) 1 = gi (M2 0) 7 := Eq.trans ht1 h7.symm
    have ht2 : gi (C_3 0) 2 = 0 ↔ 148 = 74 := ⟨fun h9 => absurd (Eq.trans h9.symm hq_2.1.2) (by decide), fun h9 => absurd h9 (by decide)⟩
    refine lv_pop hx hb dL_law_2005 rfl ?_
    refine lv_goto (tgt := 2045) hx hb dL_law_2006 (by decide) ?_
    exact kk ma2 C_3 M2 148 (cN + 74) (sN + 1116) H locs ls hT hTM hR hkp ht1 ht2 ht3 ⟨_, _, hAX, hAM, hok, hUX, hUM, _, _, hSX, hSM, hEX, hEM⟩ htK (by omega) (by omega) hP hD hS hl
  · have hkr0 := hkr
    refine lw_cM (As := []) (rest := []) ⟨hx, hb, hml, hown, htg⟩ (c_X7_image_k l D E G _ ma M n (by omega) hTM hR hkr hTk) (cwV 0 htg (oh_gV q_1421 q_1422 q_1423 q_73 q_1424) rfl rfl rfl pdVX7_image ⟨Nat.le_of_ble_eq_true rfl, Nat.le_of_ble_eq_true rfl⟩) hK hP hD hG hS hA (va_recv hK (oh_suf_P hP) (ci := 7) (q0 := 0) rfl (oh_wg (by omega) (sM_0 hTM))) rfl hl.1 rfl (Nat.le_of_ble_eq_true rfl) dL_law_2002 ⟨show cN + 0 ≤ 600000 by omega, show sN + 0 ≤ 7302250 by omega⟩ (fun r_8 M_10 H locs hq_9 hP hD hS => ?_)
    obtain ⟨hTM, hR, hcc, hTk, hRk, hcK, hcT, hq_9⟩ := hq_9
    have ht3 : ga (C_3 32) = ga (M_10 7) := Eq.trans ht3 (congrArg ga (hcc 7 (by decide))).symm
    have htK : TIEK n C_3 M_10 := Or.inr ⟨A0, T0, hq_2.2.1 A0 hAX0, hcK A0 hAM, hok, hq_2.2.2 T0 hUX0, hcT T0 hUM⟩
    have hUM : absTM M_10 T0 := absTM_eq hUM (hcc 14 (by decide)) (congrArg (fun z => gi z 19) (hcc 0 (by decide)))
    have hSM : absHM M_10 S0 := hm_fr hSM (hcc 1 (by decide)) (hcc 2 (by decide)) (hcc 3 (by decide)) (hcc 6 (by decide))
    have hEM : absEM M_10 S0 Z0 := em_eq hEM (fun s hs => hcc (16 + s) (by omega))
    have hAM : absM M_10 A0 := absM_74 hAM hTM0 hcc
    have hkp : KEPT E n ma M_10 := Or.inr ⟨en, (by rw [hcc 0 (by decide)]; exact hkr0), hTk, hRk⟩
    have ht1 : gi (C_3 5) 1 = gi (M_10 0) 7 := by rw [hcc 0 (by decide)]; exact ht1
    have ht2 : gi (C_3 0) 2 = 0 ↔ n = 74 := ⟨fun h9 => absurd (Eq.trans h9.symm hq_2.1.2) (by decide), fun h9 => absurd (Eq.trans en.symm h9) (by decide)⟩
    refine W.widen (k := cN) (n := sN) (Nat.le_refl _) (Nat.le_refl _) ?_
    refine lv_pop hx hb dL_law_2005 rfl ?_
    refine lv_goto (tgt := 2045) hx hb dL_law_2006 (by decide) ?_
    exact kk ma C_3 M_10 n (cN) (sN) H locs ls hT hTM hR hkp ht1 ht2 ht3 ⟨_, _, hAX, hAM, hok, hUX, hUM, _, _, hSX, hSM, hEX, hEM⟩ htK (by omega) (by omega) hP hD hS hl

set_option maxHeartbeats 4000000 in
set_option maxRecDepth 100000 in
/-- the law at a call of back -/
theorem lc_back {p : Program} {e : Env} {s : State} {m : MethodId} {below : List Frame} {meth : Method} {c : Code} (l : Launch) {b L : Nat} {xs : Nat → Int32} (C0 : lw_At p s m meth c b L xs) (hL : L ≤ 4096) {D : va_G} {E : Nat → ClassId} {G : Nat → Nat} {A : Nat → Prop} (hAe : A = fun q => s.heap.size ≤ q) (hK : va_K D vwCl (oh_ty E) s) (hG : oh_G G A s) {a : Nat → Nat} {i : Nat} (hi : i + 8 ≤ L) {ma : Nat → Nat} {C M : Nat → va_E} {n cN sN : Nat} (hT : TyX a E C) (hTM : TyM ma E M) (hR : RelM M) (hkp : KEPT E n ma M) (ht1 : gi (C 5) 1 = gi (M 0) 7) (ht2 : gi (C 0) 2 = 0 ↔ n = 74) (ht3 : ga (C 32) = ga (M 7)) (htA : ∃ (A0 : LA) (T0 : TP), absX 10 C A0 ∧ absM M A0 ∧ okA A0 ∧ absTX 1 16 C T0 ∧ absTM M T0 ∧ ∃ (S0 : HZ) (Z0 : EZ), absHX C S0 ∧ absHM M S0 ∧ absEX C S0 Z0 ∧ absEM M S0 Z0) (htK : TIEK n C M) (hcN : cN ≤ 35 + n) (hsN : sN ≤ 1477 + 16 * n) {H : Heap} {locs : List Loc} (hP : va_P D vwCl (oh_W 35 a C ++ oh_W n ma M) H) (hD : va_D A (oh_W 35 a C ++ oh_W n ma M)) (hS : va_S A s.heap H locs) {ls : Array Slot} (hl : lv_has ls 4 [(3, .int (nI i)), (2, .ref (ma 0)), (1, .ref (a 0)), (0, .ref b)]) (kk : ∀ (ma : Nat → Nat) (C M : Nat → va_E) (n cN sN : Nat) (H : Heap) (locs : List Loc) (ls : Array Slot), TyX a E C → TyM ma E M → RelM M → KEPT E n ma M → gi (C 5) 1 = gi (M 0) 7 → (gi (C 0) 2 = 0 ↔ n = 74) → ga (C 32) = ga (M 7) → (∃ (A0 : LA) (T0 : TP), absX 10 C A0 ∧ absM M A0 ∧ okA A0 ∧ absTX 1 16 C T0 ∧ absTM M T0 ∧ ∃ (S0 : HZ) (Z0 : EZ), absHX C S0 ∧ absHM M S0 ∧ absEX C S0 Z0 ∧ absEM M S0 Z0) → TIEK n C M → cN ≤ 35 + n → sN ≤ 1477 + 16 * n → va_P D vwCl (oh_W 35 a C ++ oh_W n ma M) H → va_D A (oh_W 35 a C ++ oh_W n ma M) → va_S A s.heap H locs → lv_has ls 4 [(3, .int (nI i)), (2, .ref (ma 0)), (1, .ref (a 0)), (0, .ref b)] → W p l e room_1 s m #[Value.ref b] below meth c H locs cN sN (lw_Z below #[Value.ref b] s) (F0 m 2045 ls [])) : W p l e room_1 s m #[Value.ref b] below meth c H locs cN sN (lw_Z below #[Value.ref b] s) (F0 m 2009 ls []) := by
  obtain ⟨hx, hb, hr, hml, hown, hts, hX, hbl, hlocks, hgv⟩ := id C0
  have hown : s.vm.findClass RL = some m.cls := hown
  have htg : ∀ w ∈ oh_t, w.before _ s = true := fun w h => hts w (List.mem_filter.mp h).1
  have hA : ∀ q, s.heap.size ≤ q → A q := fun q h => by rw [hAe]; exact h
  have hbA : ¬ A b := by rw [hAe]; exact Nat.not_le.mpr hbl
  have hn := hkp.le.1
  have hn8 := hkp.le.2
  have ht10 := ht1
  have ht20 := ht2
  have ht30 := ht3
  obtain ⟨A0, T0, hAX, hAM, hok, hUX, hUM, S0, Z0, hSX, hSM, hEX, hEM⟩ := htA
  have hAX0 := hAX
  have hAM0 := hAM
  have htK0 := htK
  have hSX0 := hSX
  have hSM0 := hSM
  have hEX0 := hEX
  have hEM0 := hEM
  have hUX0 := hUX
  refine lv_aload_n hx hb dL_law_2009 rfl (lv_at hl 2 rfl) ?_
  refine lw_cX (As := []) (rest := []) ⟨hx, hb, hml, hown, htg⟩ (e4_X6_back l D E G _ a C hT) (cwV 0 htg (oh_gV q_942 q_943 q_944 q_66 q_945) rfl rfl rfl pdVX6_back ⟨Nat.le_of_ble_eq_true rfl, Nat.le_of_ble_eq_true rfl⟩) hK hP hD hG hS hA (va_recv hK (oh_pre_P hP) (ci := 6) (q0 := 0) rfl (oh_wg (by decide) (sX_0 hT))) rfl hl.1 rfl (Nat.le_of_ble_eq_true rfl) dL_law_2010 ⟨show cN + 0 ≤ 600000 by omega, show sN + 0 ≤ 7302250 by omega⟩ (fun r_1 C_3 H locs hq_2 hP hD hS => ?_)
  obtain ⟨hT, f_4, hq_2⟩ := hq_2
  have ht1 : gi (C_3 5) 1 = gi (M 0) 7 := by rw [f_4.1 5 rfl (by decide)]; exact ht1
  have ht2 : gi (C_3 0) 2 = 0 ↔ n = 74 := by rw [show gi (C_3 0) 2 = gi (C 0) 2 from congrArg vi (f_4.2 2 (by decide))]; exact ht2
  have ht3 : ga (C_3 32) = ga (M 7) := Eq.trans (congrArg ga (f_4.1 32 rfl (by decide))) ht3
  have htK := htK.x (fr_all f_4 17 23 (by decide)) (f_4.1 2 rfl (by decide))
  refine W.widen (k := cN) (n := sN) (Nat.le_refl _) (Nat.le_refl _) ?_
  refine lv_pop hx hb dL_law_2013 rfl ?_
  refine lv_aload_n hx hb dL_law_2014 rfl (lv_at hl 1 rfl) ?_
  have hTM0 := hTM
  rcases hkp with ⟨en, hkn⟩ | ⟨en, hkr, hTk, hRk⟩
  · refine lw_cM (As := []) (rest := []) ⟨hx, hb, hml, hown, htg⟩ (c_X7_back_n l D E G _ ma M n hn hTM hR hkn) (cwV 0 htg (oh_gV q_1437 q_1438 q_1439 q_73 q_1440) rfl rfl rfl pdVX7_back ⟨Nat.le_of_ble_eq_true rfl, Nat.le_of_ble_eq_true rfl⟩) hK hP hD hG hS hA (va_recv hK (oh_suf_P hP) (ci := 7) (q0 := 0) rfl (oh_wg (by omega) (sM_0 hTM))) rfl hl.1 rfl (Nat.le_of_ble_eq_true rfl) dL_law_2015 ⟨show cN + 0 ≤ 600000 by omega, show sN + 0 ≤ 7302250 by omega⟩ (fun r_5 M_7 H locs hq_6 hP hD hS => ?_)
    obtain ⟨hTM, f_8, hR, hq_6⟩ := hq_6
    have hkp : KEPT E n ma M_7 := kept_fr (Or.inl ⟨en, hkn⟩) f_8 (by decide)
    refine W.widen (k := cN) (n := sN) (Nat.le_refl _) (Nat.le_refl _) ?_
    have ht1 : gi (C_3 5) 1 = gi (M_7 0) 7 := by rw [show gi (M_7 0) 7 = gi (M 0) 7 from congrArg vi (f_8.2 7 (by decide))]; exact ht1
    have ht3 : ga (C_3 32) = ga (M_7 7) := Eq.trans ht3 (congrArg ga (f_8.1 7 rfl (by decide))).symm
    have htK := htK.m f_8 (by decide)
    have hAM : absM M_7 A0 := absM_fr hAM hTM0 f_8 (by decide) (by decide) (by decide)
    have hAX : absX 10 C_3 A0 := absX_eq hAX (fun k k1 k2 => hq_2.2.1.2 (by rw [hq_2.1, if_pos (ht20.mpr en)]; decide) k k1 (by omega))
    have hUM : absTM M_7 T0 := absTM_eq hUM (f_8.1 14 rfl (by decide)) (congrArg vi (f_8.2 19 (by decide)))
    have hUX : absTX 1 16 C_3 T0 := hq_2.2.2.1.2 (by rw [hq_2.1, if_pos (ht20.mpr en)]; decide) T0 hUX
    have hSM : absHM M_7 S0 := hm_fr hSM (f_8.1 1 rfl (by decide)) (f_8.1 2 rfl (by decide)) (f_8.1 3 rfl (by decide)) (f_8.1 6 rfl (by decide))
    have hSX : absHX C_3 S0 := hq_2.2.2.2.2 (by rw [hq_2.1, if_pos (ht20.mpr en)]; decide) S0 hSX
    have hEM : absEM M_7 S0 Z0 := em_eq hEM (fun s hs => f_8.1 (16 + s) (inR_out hs (by decide)) (by omega))
    have hEX : absEX C_3 S0 Z0 := ex_eq hEX (f_4.1 31 rfl (by decide))
    refine lv_pop hx hb dL_law_2018 rfl ?_
    refine lv_goto (tgt := 2045) hx hb dL_law_2019 (by decide) ?_
    exact kk ma C_3 M_7 n (cN) (sN) H locs ls hT hTM hR hkp ht1 ht2 ht3 ⟨_, _, hAX, hAM, hok, hUX, hUM, _, _, hSX, hSM, hEX, hEM⟩ htK (by omega) (by omega) hP hD hS hl
  · refine lw_cM (As := []) (rest := []) ⟨hx, hb, hml, hown, htg⟩ (c_X7_back_k l D E G _ ma M n hn hTM hR hkr (by omega) hTk hRk) (cwV 0 htg (oh_gV q_1437 q_1438 q_1439 q_73 q_1440) rfl rfl rfl pdVX7_back ⟨Nat.le_of_ble_eq_true rfl, Nat.le_of_ble_eq_true rfl⟩) hK hP hD hG hS hA (va_recv hK (oh_suf_P hP) (ci := 7) (q0 := 0) rfl (oh_wg (by omega) (sM_0 hTM))) rfl hl.1 rfl (Nat.le_of_ble_eq_true rfl) dL_law_2015 ⟨show cN + 0 ≤ 600000 by omega, show sN + 0 ≤ 7302250 by omega⟩ (fun r_9 M_11 H locs hq_10 hP hD hS => ?_)
    obtain ⟨hTM, f_12, hR, hq_10⟩ := hq_10
    have ht1 : gi (C_3 5) 1 = gi (M_11 0) 7 := by rw [show gi (M_11 0) 7 = gi (M 0) 7 from congrArg vi (f_12.2 7 (by decide))]; exact ht1
    have hkp : KEPT E n ma M_11 := kept_fr (Or.inr ⟨en, hkr, hTk, hRk⟩) f_12 (by decide)
    have ht3 : ga (C_3 32) = ga (M_11 7) := Eq.trans ht3 (congrArg ga (f_12.1 7 rfl (by decide))).symm
    obtain ⟨AJ, TJ, hJX, hJM, hok, hJT, hJU⟩ := htK0.k (by rw [en]; decide)
    have hAX : absX 10 C_3 AJ := hq_2.2.1.1 (by rw [hq_2.1, if_neg (fun h9 => absurd (Eq.trans en.symm (ht20.mp h9)) (by decide))]) AJ hJX
    have hAM : absM M_11 AJ := hq_10.2.2.1 AJ hJM
    have hUM : absTM M_11 TJ := hq_10.2.2.2 TJ hJU
    have hUX : absTX 1 16 C_3 TJ := hq_2.2.2.1.1 (by rw [hq_2.1, if_neg (fun h9 => absurd (Eq.trans en.symm (ht20.mp h9)) (by decide))]) TJ hJT
    have hSM := hq_10.2.1 AJ hJM S0 hSM
    have hSX := hq_2.2.2.2.1 (by rw [hq_2.1, if_neg (fun h9 => absurd (Eq.trans en.symm (ht20.mp h9)) (by decide))]) AJ hJX S0 hSX
    have hEM : absEM M_11 (spDr S0 (AJ 5 0 1) 8) Z0 := em_sub hEM (fun s hs => f_12.1 (16 + s) (inR_out hs (by decide)) (by omega)) dr_sub
    have hEX : absEX C_3 (spDr S0 (AJ 5 0 1) 8) Z0 := ex_sub hEX (f_4.1 31 rfl (by decide)) dr_sub
    have htK := htK.m f_12 (by decide)
    refine W.widen (k := cN) (n := sN) (Nat.le_refl _) (Nat.le_refl _) ?_
    refine lv_pop hx hb dL_law_2018 rfl ?_
    refine lv_goto (tgt := 2045) hx hb dL_law_2019 (by decide) ?_
    exact kk ma C_3 M_11 n (cN) (sN) H locs ls hT hTM hR hkp ht1 ht2 ht3 ⟨_, _, hAX, hAM, hok, hUX, hUM, _, _, hSX, hSM, hEX, hEM⟩ htK (by omega) (by omega) hP hD hS hl

set_option maxHeartbeats 4000000 in
set_option maxRecDepth 100000 in
/-- the law at a call of status -/
theorem lc_status {p : Program} {e : Env} {s : State} {m : MethodId} {below : List Frame} {meth : Method} {c : Code} (l : Launch) {b L : Nat} {xs : Nat → Int32} (C0 : lw_At p s m meth c b L xs) (hL : L ≤ 4096) {D : va_G} {E : Nat → ClassId} {G : Nat → Nat} {A : Nat → Prop} (hAe : A = fun q => s.heap.size ≤ q) (hK : va_K D vwCl (oh_ty E) s) (hG : oh_G G A s) {a : Nat → Nat} {i : Nat} (hi : i + 8 ≤ L) {ma : Nat → Nat} {C M : Nat → va_E} {n cN sN : Nat} (hT : TyX a E C) (hTM : TyM ma E M) (hR : RelM M) (hkp : KEPT E n ma M) (ht1 : gi (C 5) 1 = gi (M 0) 7) (ht2 : gi (C 0) 2 = 0 ↔ n = 74) (ht3 : ga (C 32) = ga (M 7)) (htA : ∃ (A0 : LA) (T0 : TP), absX 10 C A0 ∧ absM M A0 ∧ okA A0 ∧ absTX 1 16 C T0 ∧ absTM M T0 ∧ ∃ (S0 : HZ) (Z0 : EZ), absHX C S0 ∧ absHM M S0 ∧ absEX C S0 Z0 ∧ absEM M S0 Z0) (htK : TIEK n C M) (hcN : cN ≤ 35 + n) (hsN : sN ≤ 1477 + 16 * n) {H : Heap} {locs : List Loc} (hP : va_P D vwCl (oh_W 35 a C ++ oh_W n ma M) H) (hD : va_D A (oh_W 35 a C ++ oh_W n ma M)) (hS : va_S A s.heap H locs) {ls : Array Slot} (hl : lv_has ls 4 [(3, .int (nI i)), (2, .ref (ma 0)), (1, .ref (a 0)), (0, .ref b)]) (kk : ∀ (ma : Nat → Nat) (C M : Nat → va_E) (n cN sN : Nat) (H : Heap) (locs : List Loc) (ls : Array Slot), TyX a E C → TyM ma E M → RelM M → KEPT E n ma M → gi (C 5) 1 = gi (M 0) 7 → (gi (C 0) 2 = 0 ↔ n = 74) → ga (C 32) = ga (M 7) → (∃ (A0 : LA) (T0 : TP), absX 10 C A0 ∧ absM M A0 ∧ okA A0 ∧ absTX 1 16 C T0 ∧ absTM M T0 ∧ ∃ (S0 : HZ) (Z0 : EZ), absHX C S0 ∧ absHM M S0 ∧ absEX C S0 Z0 ∧ absEM M S0 Z0) → TIEK n C M → cN ≤ 35 + n → sN ≤ 1477 + 16 * n → va_P D vwCl (oh_W 35 a C ++ oh_W n ma M) H → va_D A (oh_W 35 a C ++ oh_W n ma M) → va_S A s.heap H locs → lv_has ls 4 [(3, .int (nI i)), (2, .ref (ma 0)), (1, .ref (a 0)), (0, .ref b)] → W p l e room_1 s m #[Value.ref b] below meth c H locs cN sN (lw_Z below #[Value.ref b] s) (F0 m 2045 ls [])) : W p l e room_1 s m #[Value.ref b] below meth c H locs cN sN (lw_Z below #[Value.ref b] s) (F0 m 2022 ls []) := by
  obtain ⟨hx, hb, hr, hml, hown, hts, hX, hbl, hlocks, hgv⟩ := id C0
  have hown : s.vm.findClass RL = some m.cls := hown
  have htg : ∀ w ∈ oh_t, w.before _ s = true := fun w h => hts w (List.mem_filter.mp h).1
  have hA : ∀ q, s.heap.size ≤ q → A q := fun q h => by rw [hAe]; exact h
  have hbA : ¬ A b := by rw [hAe]; exact Nat.not_le.mpr hbl
  have hn := hkp.le.1
  have hn8 := hkp.le.2
  have ht10 := ht1
  have ht20 := ht2
  have ht30 := ht3
  obtain ⟨A0, T0, hAX, hAM, hok, hUX, hUM, S0, Z0, hSX, hSM, hEX, hEM⟩ := htA
  have hAX0 := hAX
  have hAM0 := hAM
  have htK0 := htK
  have hSX0 := hSX
  have hSM0 := hSM
  have hEX0 := hEX
  have hEM0 := hEM
  have hUX0 := hUX
  refine lv_aload_n hx hb dL_law_2022 rfl (lv_at hl 2 rfl) ?_
  refine lv_aload_n hx hb dL_law_2023 rfl (lv_at hl 3 rfl) ?_
  refine lv_iload_n hx hb dL_law_2024 rfl (lv_at hl 0 rfl) ?_
  refine lv_iconst (v := 1) hx hb dL_law_2025 (by decide) ?_
  refine lv_iadd hx hb dL_law_2026 ?_
  refine va_sld hx hb hX hbl hbA hS (lw_ix hi hL (rg_c (v := 1) (lo := 1) (hi := 1) (by decide)) (by decide)) dL_law_2027 ?_
  refine tq_V (As := [.int (xs ((nI i) + 1).toNatClampNeg)]) (rest := []) (ws := oh_W 35 a C) ⟨hx, hb, hml, hown, htg⟩ (c_X6_status l D E G a C hT (xs ((nI i) + 1).toNatClampNeg)) (cwV 1 htg (oh_gV q_951 q_952 q_953 q_66 q_954) rfl rfl rfl pdVX6_status ⟨Nat.le_of_ble_eq_true rfl, Nat.le_of_ble_eq_true rfl⟩) hK (oh_pre_P hP) hG hS (va_recv hK (oh_pre_P hP) (ci := 6) (q0 := 0) rfl (oh_wg (by decide) (sX_0 hT))) rfl hl.1 rfl (Nat.le_of_ble_eq_true rfl) dL_law_2028 ⟨show cN ≤ 600000 by omega, show sN ≤ 7302250 by omega⟩ (fun r_1 hq_2 => ?_)
  refine lv_pop hx hb dL_law_2031 rfl ?_
  refine lv_aload_n hx hb dL_law_2032 rfl (lv_at hl 1 rfl) ?_
  refine lv_aload_n hx hb dL_law_2033 rfl (lv_at hl 3 rfl) ?_
  refine lv_iload_n hx hb dL_law_2034 rfl (lv_at hl 0 rfl) ?_
  refine lv_iconst (v := 1) hx hb dL_law_2035 (by decide) ?_
  refine lv_iadd hx hb dL_law_2036 ?_
  refine va_sld hx hb hX hbl hbA hS (lw_ix hi hL (rg_c (v := 1) (lo := 1) (hi := 1) (by decide)) (by decide)) dL_law_2037 ?_
  refine tq_V (As := [.int (xs ((nI i) + 1).toNatClampNeg)]) (rest := []) (ws := oh_W n ma M) ⟨hx, hb, hml, hown, htg⟩ (c_X7_status l D E G ma M n hn hTM (xs ((nI i) + 1).toNatClampNeg) hR) (cwV 1 htg (oh_gV q_1441 q_1442 q_1443 q_73 q_1444) rfl rfl rfl pdVX7_status ⟨Nat.le_of_ble_eq_true rfl, Nat.le_of_ble_eq_true rfl⟩) hK (oh_suf_P hP) hG hS (va_recv hK (oh_suf_P hP) (ci := 7) (q0 := 0) rfl (oh_wg (by omega) (sM_0 hTM))) rfl hl.1 rfl (Nat.le_of_ble_eq_true rfl) dL_law_2038 ⟨show cN ≤ 600000 by omega, show sN ≤ 7302250 by omega⟩ (fun r_3 hq_4 => ?_)
  refine lv_pop hx hb dL_law_2041 rfl ?_
  refine lv_goto (tgt := 2045) hx hb dL_law_2042 (by decide) ?_
  exact kk ma C M n (cN) (sN) H locs ls hT hTM hR hkp ht1 ht2 ht3 ⟨_, _, hAX, hAM, hok, hUX, hUM, _, _, hSX, hSM, hEX, hEM⟩ htK (by omega) (by omega) hP hD hS hl
