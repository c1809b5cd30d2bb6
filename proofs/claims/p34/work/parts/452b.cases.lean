set_option maxHeartbeats 4000000 in
set_option maxRecDepth 100000 in
/-- the law at a call of judge -/
theorem lc_judge {p : Program} {e : Env} {s : State} {m : MethodId} {below : List Frame} {meth : Method} {c : Code} (l : Launch) {b L : Nat} {xs : Nat → Int32} (C0 : lw_At p s m meth c b L xs) (hL : L ≤ 4096) {D : va_G} {E : Nat → ClassId} {G : Nat → Nat} {A : Nat → Prop} (hAe : A = fun q => s.heap.size ≤ q) (hK : va_K D vwCl (oh_ty E) s) (hG : oh_G G A s) {a : Nat → Nat} {i : Nat} (hi : i + 8 ≤ L) {ma : Nat → Nat} {C M : Nat → va_E} {n cN sN : Nat} (hT : TyX a E C) (hTM : TyM ma E M) (hR : RelM M) (hkp : KEPT E n ma M) (ht1 : gi (C 5) 1 = gi (M 0) 7) (ht2 : gi (C 0) 2 = 0 ↔ n = 74) (ht3 : ga (C 32) = ga (M 7)) (htA : ∃ (A0 : LA) (T0 : TP), absX 10 C A0 ∧ absM M A0 ∧ okA A0 ∧ absTX 1 16 C T0 ∧ absTM M T0) (htK : TIEK n C M) (hcN : cN ≤ 35 + n) (hsN : sN ≤ 1477 + 16 * n) {H : Heap} {locs : List Loc} (hP : va_P D vwCl (oh_W 35 a C ++ oh_W n ma M) H) (hD : va_D A (oh_W 35 a C ++ oh_W n ma M)) (hS : va_S A s.heap H locs) {ls : Array Slot} (hl : lv_has ls 4 [(3, .int (nI i)), (2, .ref (ma 0)), (1, .ref (a 0)), (0, .ref b)]) (kk : ∀ (ma : Nat → Nat) (C M : Nat → va_E) (n cN sN : Nat) (H : Heap) (locs : List Loc) (ls : Array Slot), TyX a E C → TyM ma E M → RelM M → KEPT E n ma M → gi (C 5) 1 = gi (M 0) 7 → (gi (C 0) 2 = 0 ↔ n = 74) → ga (C 32) = ga (M 7) → (∃ (A0 : LA) (T0 : TP), absX 10 C A0 ∧ absM M A0 ∧ okA A0 ∧ absTX 1 16 C T0 ∧ absTM M T0) → TIEK n C M → cN ≤ 35 + n → sN ≤ 1477 + 16 * n → va_P D vwCl (oh_W 35 a C ++ oh_W n ma M) H → va_D A (oh_W 35 a C ++ oh_W n ma M) → va_S A s.heap H locs → lv_has ls 4 [(3, .int (nI i)), (2, .ref (ma 0)), (1, .ref (a 0)), (0, .ref b)] → W p l e room_1 s m #[Value.ref b] below meth c H locs cN sN (lw_Z below #[Value.ref b] s) (F0 m 2045 ls [])) : W p l e room_1 s m #[Value.ref b] below meth c H locs cN sN (lw_Z below #[Value.ref b] s) (F0 m 1500 ls []) := by
  obtain ⟨hx, hb, hr, hml, hown, hts, hX, hbl, hlocks, hgv⟩ := id C0
  have hown : s.vm.findClass RL = some m.cls := hown
  have htg : ∀ w ∈ oh_t, w.before _ s = true := fun w h => hts w (List.mem_filter.mp h).1
  have hA : ∀ q, s.heap.size ≤ q → A q := fun q h => by rw [hAe]; exact h
  have hbA : ¬ A b := by rw [hAe]; exact Nat.not_le.mpr hbl
  have hn := hkp.le.1
  have hn8 := hkp.le.2
  have ht10 := ht1
  have ht20 := ht2
  have ht30 := ht3
  obtain ⟨A0, T0, hAX, hAM, hok, hUX, hUM⟩ := htA
  have hAX0 := hAX
  have hAM0 := hAM
  have htK0 := htK
  have hUX0 := hUX
  refine lv_aload_n hx hb dL_law_1500 rfl (lv_at hl 2 rfl) ?_
  refine lv_aload_n hx hb dL_law_1501 rfl (lv_at hl 3 rfl) ?_
  refine lv_iload_n hx hb dL_law_1502 rfl (lv_at hl 0 rfl) ?_
  refine lv_iconst (v := 1) hx hb dL_law_1503 (by decide) ?_
  refine lv_iadd hx hb dL_law_1504 ?_
  refine va_sld hx hb hX hbl hbA hS (lw_ix hi hL (rg_c (v := 1) (lo := 1) (hi := 1) (by decide)) (by decide)) dL_law_1505 ?_
  refine lv_aload_n hx hb dL_law_1506 rfl (lv_at hl 3 rfl) ?_
  refine lv_iload_n hx hb dL_law_1507 rfl (lv_at hl 0 rfl) ?_
  refine lv_iconst (v := 2) hx hb dL_law_1508 (by decide) ?_
  refine lv_iadd hx hb dL_law_1509 ?_
  refine va_sld hx hb hX hbl hbA hS (lw_ix hi hL (rg_c (v := 2) (lo := 2) (hi := 2) (by decide)) (by decide)) dL_law_1510 ?_
  refine lv_aload_n hx hb dL_law_1511 rfl (lv_at hl 3 rfl) ?_
  refine lv_iload_n hx hb dL_law_1512 rfl (lv_at hl 0 rfl) ?_
  refine lv_iconst (v := 3) hx hb dL_law_1513 (by decide) ?_
  refine lv_iadd hx hb dL_law_1514 ?_
  refine va_sld hx hb hX hbl hbA hS (lw_ix hi hL (rg_c (v := 3) (lo := 3) (hi := 3) (by decide)) (by decide)) dL_law_1515 ?_
  refine lv_aload_n hx hb dL_law_1516 rfl (lv_at hl 3 rfl) ?_
  refine lv_iload_n hx hb dL_law_1517 rfl (lv_at hl 0 rfl) ?_
  refine lv_iconst (v := 4) hx hb dL_law_1518 (by decide) ?_
  refine lv_iadd hx hb dL_law_1519 ?_
  refine va_sld hx hb hX hbl hbA hS (lw_ix hi hL (rg_c (v := 4) (lo := 4) (hi := 4) (by decide)) (by decide)) dL_law_1520 ?_
  refine lv_aload_n hx hb dL_law_1521 rfl (lv_at hl 3 rfl) ?_
  refine lv_iload_n hx hb dL_law_1522 rfl (lv_at hl 0 rfl) ?_
  refine lv_iconst (v := 5) hx hb dL_law_1523 (by decide) ?_
  refine lv_iadd hx hb dL_law_1524 ?_
  refine va_sld hx hb hX hbl hbA hS (lw_ix hi hL (rg_c (v := 5) (lo := 5) (hi := 5) (by decide)) (by decide)) dL_law_1525 ?_
  refine lw_cX (As := [.int (xs ((nI i) + 1).toNatClampNeg), .int (xs ((nI i) + 2).toNatClampNeg), .int (xs ((nI i) + 3).toNatClampNeg), .int (xs ((nI i) + 4).toNatClampNeg), .int (xs ((nI i) + 5).toNatClampNeg)]) (rest := []) ⟨hx, hb, hml, hown, htg⟩ (c_X6_judge l D E G _ a C hT (xs ((nI i) + 1).toNatClampNeg) (xs ((nI i) + 2).toNatClampNeg) (xs ((nI i) + 3).toNatClampNeg) (xs ((nI i) + 4).toNatClampNeg) (xs ((nI i) + 5).toNatClampNeg)) (cwV 5 htg (oh_gV q_826 q_827 q_828 q_66 q_829) rfl rfl rfl pdVX6_judge ⟨Nat.le_of_ble_eq_true rfl, Nat.le_of_ble_eq_true rfl⟩) hK hP hD hG hS hA (va_recv hK (oh_pre_P hP) (ci := 6) (q0 := 0) rfl (oh_wg (by decide) (sX_0 hT))) rfl hl.1 rfl (Nat.le_of_ble_eq_true rfl) dL_law_1526 ⟨show cN + 0 ≤ 600000 by omega, show sN + 0 ≤ 7302250 by omega⟩ (fun r_1 C_3 H locs hq_2 hP hD hS => ?_)
  obtain ⟨hT, f_4, hq_2⟩ := hq_2
  have ht1 : gi (C_3 5) 1 = gi (M 0) 7 := by rw [f_4.1 5 rfl (by decide)]; exact ht1
  have ht2 : gi (C_3 0) 2 = 0 ↔ n = 74 := by rw [show gi (C_3 0) 2 = gi (C 0) 2 from congrArg vi (f_4.2 2 (by decide))]; exact ht2
  have ht3 : ga (C_3 32) = ga (M 7) := Eq.trans (congrArg ga (f_4.1 32 rfl (by decide))) ht3
  have htK := htK.x (fr_all f_4 17 23 (by decide)) (f_4.1 2 rfl (by decide))
  have hAX : absX 10 C_3 A0 := absX_eq hAX (fun k k1 k2 => fr_all f_4 10 15 (by decide) k k1 (by omega))
  have hUX : absTX 1 16 C_3 T0 := absTX_eq hUX (congrArg (fun z => gi z 7) (f_4.1 1 rfl (by decide))) (f_4.1 16 rfl (by decide))
  refine W.widen (k := cN) (n := sN) (Nat.le_refl _) (Nat.le_refl _) ?_
  refine lv_pop hx hb dL_law_1529 rfl ?_
  refine lv_aload_n hx hb dL_law_1530 rfl (lv_at hl 1 rfl) ?_
  refine lv_aload_n hx hb dL_law_1531 rfl (lv_at hl 3 rfl) ?_
  refine lv_iload_n hx hb dL_law_1532 rfl (lv_at hl 0 rfl) ?_
  refine lv_iconst (v := 1) hx hb dL_law_1533 (by decide) ?_
  refine lv_iadd hx hb dL_law_1534 ?_
  refine va_sld hx hb hX hbl hbA hS (lw_ix hi hL (rg_c (v := 1) (lo := 1) (hi := 1) (by decide)) (by decide)) dL_law_1535 ?_
  refine lv_aload_n hx hb dL_law_1536 rfl (lv_at hl 3 rfl) ?_
  refine lv_iload_n hx hb dL_law_1537 rfl (lv_at hl 0 rfl) ?_
  refine lv_iconst (v := 2) hx hb dL_law_1538 (by decide) ?_
  refine lv_iadd hx hb dL_law_1539 ?_
  refine va_sld hx hb hX hbl hbA hS (lw_ix hi hL (rg_c (v := 2) (lo := 2) (hi := 2) (by decide)) (by decide)) dL_law_1540 ?_
  refine lv_aload_n hx hb dL_law_1541 rfl (lv_at hl 3 rfl) ?_
  refine lv_iload_n hx hb dL_law_1542 rfl (lv_at hl 0 rfl) ?_
  refine lv_iconst (v := 3) hx hb dL_law_1543 (by decide) ?_
  refine lv_iadd hx hb dL_law_1544 ?_
  refine va_sld hx hb hX hbl hbA hS (lw_ix hi hL (rg_c (v := 3) (lo := 3) (hi := 3) (by decide)) (by decide)) dL_law_1545 ?_
  refine lv_aload_n hx hb dL_law_1546 rfl (lv_at hl 3 rfl) ?_
  refine lv_iload_n hx hb dL_law_1547 rfl (lv_at hl 0 rfl) ?_
  refine lv_iconst (v := 4) hx hb dL_law_1548 (by decide) ?_
  refine lv_iadd hx hb dL_law_1549 ?_
  refine va_sld hx hb hX hbl hbA hS (lw_ix hi hL (rg_c (v := 4) (lo := 4) (hi := 4) (by decide)) (by decide)) dL_law_1550 ?_
  refine lv_aload_n hx hb dL_law_1551 rfl (lv_at hl 3 rfl) ?_
  refine lv_iload_n hx hb dL_law_1552 rfl (lv_at hl 0 rfl) ?_
  refine lv_iconst (v := 5) hx hb dL_law_1553 (by decide) ?_
  refine lv_iadd hx hb dL_law_1554 ?_
  refine va_sld hx hb hX hbl hbA hS (lw_ix hi hL (rg_c (v := 5) (lo := 5) (hi := 5) (by decide)) (by decide)) dL_law_1555 ?_
  refine lw_cM (As := [.int (xs ((nI i) + 1).toNatClampNeg), .int (xs ((nI i) + 2).toNatClampNeg), .int (xs ((nI i) + 3).toNatClampNeg), .int (xs ((nI i) + 4).toNatClampNeg), .int (xs ((nI i) + 5).toNatClampNeg)]) (rest := []) ⟨hx, hb, hml, hown, htg⟩ (c_X7_judge l D E G _ ma M n hn hTM (xs ((nI i) + 1).toNatClampNeg) (xs ((nI i) + 2).toNatClampNeg) (xs ((nI i) + 3).toNatClampNeg) (xs ((nI i) + 4).toNatClampNeg) (xs ((nI i) + 5).toNatClampNeg) hR) (cwV 5 htg (oh_gV q_1369 q_1370 q_1371 q_73 q_1372) rfl rfl rfl pdVX7_judge ⟨Nat.le_of_ble_eq_true rfl, Nat.le_of_ble_eq_true rfl⟩) hK hP hD hG hS hA (va_recv hK (oh_suf_P hP) (ci := 7) (q0 := 0) rfl (oh_wg (by omega) (sM_0 hTM))) rfl hl.1 rfl (Nat.le_of_ble_eq_true rfl) dL_law_1556 ⟨show cN + 0 ≤ 600000 by omega, show sN + 0 ≤ 7302250 by omega⟩ (fun r_5 M_7 H locs hq_6 hP hD hS => ?_)
  have hTM0 := hTM
  obtain ⟨hTM, f_8, hR⟩ := hq_6
  have hkp := kept_fr hkp f_8 (by decide)
  have ht1 : gi (C_3 5) 1 = gi (M_7 0) 7 := by rw [show gi (M_7 0) 7 = gi (M 0) 7 from congrArg vi (f_8.2 7 (by decide))]; exact ht1
  have ht3 : ga (C_3 32) = ga (M_7 7) := Eq.trans ht3 (congrArg ga (f_8.1 7 rfl (by decide))).symm
  have htK := htK.m f_8 (by decide)
  have hAM : absM M_7 A0 := absM_fr hAM hTM0 f_8 (by decide) (by decide) (by decide)
  have hUM : absTM M_7 T0 := absTM_eq hUM (f_8.1 14 rfl (by decide)) (congrArg vi (f_8.2 19 (by decide)))
  refine W.widen (k := cN) (n := sN) (Nat.le_refl _) (Nat.le_refl _) ?_
  refine lv_pop hx hb dL_law_1559 rfl ?_
  refine lv_goto (tgt := 2045) hx hb dL_law_1560 (by decide) ?_
  exact kk ma C_3 M_7 n (cN) (sN) H locs ls hT hTM hR hkp ht1 ht2 ht3 ⟨_, _, hAX, hAM, hok, hUX, hUM⟩ htK (by omega) (by omega) hP hD hS hl

set_option maxHeartbeats 4000000 in
set_option maxRecDepth 100000 in
/-- the law at a call of told -/
theorem lc_told {p : Program} {e : Env} {s : State} {m : MethodId} {below : List Frame} {meth : Method} {c : Code} (l : Launch) {b L : Nat} {xs : Nat → Int32} (C0 : lw_At p s m meth c b L xs) (hL : L ≤ 4096) {D : va_G} {E : Nat → ClassId} {G : Nat → Nat} {A : Nat → Prop} (hAe : A = fun q => s.heap.size ≤ q) (hK : va_K D vwCl (oh_ty E) s) (hG : oh_G G A s) {a : Nat → Nat} {i : Nat} (hi : i + 8 ≤ L) {ma : Nat → Nat} {C M : Nat → va_E} {n cN sN : Nat} (hT : TyX a E C) (hTM : TyM ma E M) (hR : RelM M) (hkp : KEPT E n ma M) (ht1 : gi (C 5) 1 = gi (M 0) 7) (ht2 : gi (C 0) 2 = 0 ↔ n = 74) (ht3 : ga (C 32) = ga (M 7)) (htA : ∃ (A0 : LA) (T0 : TP), absX 10 C A0 ∧ absM M A0 ∧ okA A0 ∧ absTX 1 16 C T0 ∧ absTM M T0) (htK : TIEK n C M) (hcN : cN ≤ 35 + n) (hsN : sN ≤ 1477 + 16 * n) {H : Heap} {locs : List Loc} (hP : va_P D vwCl (oh_W 35 a C ++ oh_W n ma M) H) (hD : va_D A (oh_W 35 a C ++ oh_W n ma M)) (hS : va_S A s.heap H locs) {ls : Array Slot} (hl : lv_has ls 4 [(3, .int (nI i)), (2, .ref (ma 0)), (1, .ref (a 0)), (0, .ref b)]) (kk : ∀ (ma : Nat → Nat) (C M : Nat → va_E) (n cN sN : Nat) (H : Heap) (locs : List Loc) (ls : Array Slot), TyX a E C → TyM ma E M → RelM M → KEPT E n ma M → gi (C 5) 1 = gi (M 0) 7 → (gi (C 0) 2 = 0 ↔ n = 74) → ga (C 32) = ga (M 7) → (∃ (A0 : LA) (T0 : TP), absX 10 C A0 ∧ absM M A0 ∧ okA A0 ∧ absTX 1 16 C T0 ∧ absTM M T0) → TIEK n C M → cN ≤ 35 + n → sN ≤ 1477 + 16 * n → va_P D vwCl (oh_W 35 a C ++ oh_W n ma M) H → va_D A (oh_W 35 a C ++ oh_W n ma M) → va_S A s.heap H locs → lv_has ls 4 [(3, .int (nI i)), (2, .ref (ma 0)), (1, .ref (a 0)), (0, .ref b)] → W p l e room_1 s m #[Value.ref b] below meth c H locs cN sN (lw_Z below #[Value.ref b] s) (F0 m 2045 ls [])) : W p l e room_1 s m #[Value.ref b] below meth c H locs cN sN (lw_Z below #[Value.ref b] s) (F0 m 1563 ls []) := by
  obtain ⟨hx, hb, hr, hml, hown, hts, hX, hbl, hlocks, hgv⟩ := id C0
  have hown : s.vm.findClass RL = some m.cls := hown
  have htg : ∀ w ∈ oh_t, w.before _ s = true := fun w h => hts w (List.mem_filter.mp h).1
  have hA : ∀ q, s.heap.size ≤ q → A q := fun q h => by rw [hAe]; exact h
  have hbA : ¬ A b := by rw [hAe]; exact Nat.not_le.mpr hbl
  have hn := hkp.le.1
  have hn8 := hkp.le.2
  have ht10 := ht1
  have ht20 := ht2
  have ht30 := ht3
  obtain ⟨A0, T0, hAX, hAM, hok, hUX, hUM⟩ := htA
  have hAX0 := hAX
  have hAM0 := hAM
  have htK0 := htK
  have hUX0 := hUX
  refine lv_aload_n hx hb dL_law_1563 rfl (lv_at hl 2 rfl) ?_
  refine lv_aload_n hx hb dL_law_1564 rfl (lv_at hl 3 rfl) ?_
  refine lv_iload_n hx hb dL_law_1565 rfl (lv_at hl 0 rfl) ?_
  refine lv_iconst (v := 1) hx hb dL_law_1566 (by decide) ?_
  refine lv_iadd hx hb dL_law_1567 ?_
  refine va_sld hx hb hX hbl hbA hS (lw_ix hi hL (rg_c (v := 1) (lo := 1) (hi := 1) (by decide)) (by decide)) dL_law_1568 ?_
  refine lv_aload_n hx hb dL_law_1569 rfl (lv_at hl 3 rfl) ?_
  refine lv_iload_n hx hb dL_law_1570 rfl (lv_at hl 0 rfl) ?_
  refine lv_iconst (v := 2) hx hb dL_law_1571 (by decide) ?_
  refine lv_iadd hx hb dL_law_1572 ?_
  refine va_sld hx hb hX hbl hbA hS (lw_ix hi hL (rg_c (v := 2) (lo := 2) (hi := 2) (by decide)) (by decide)) dL_law_1573 ?_
  refine lv_aload_n hx hb dL_law_1574 rfl (lv_at hl 3 rfl) ?_
  refine lv_iload_n hx hb dL_law_1575 rfl (lv_at hl 0 rfl) ?_
  refine lv_iconst (v := 3) hx hb dL_law_1576 (by decide) ?_
  refine lv_iadd hx hb dL_law_1577 ?_
  refine va_sld hx hb hX hbl hbA hS (lw_ix hi hL (rg_c (v := 3) (lo := 3) (hi := 3) (by decide)) (by decide)) dL_law_1578 ?_
  refine lv_aload_n hx hb dL_law_1579 rfl (lv_at hl 3 rfl) ?_
  refine lv_iload_n hx hb dL_law_1580 rfl (lv_at hl 0 rfl) ?_
  refine lv_iconst (v := 4) hx hb dL_law_1581 (by decide) ?_
  refine lv_iadd hx hb dL_law_1582 ?_
  refine va_sld hx hb hX hbl hbA hS (lw_ix hi hL (rg_c (v := 4) (lo := 4) (hi := 4) (by decide)) (by decide)) dL_law_1583 ?_
  refine lv_aload_n hx hb dL_law_1584 rfl (lv_at hl 3 rfl) ?_
  refine lv_iload_n hx hb dL_law_1585 rfl (lv_at hl 0 rfl) ?_
  refine lv_iconst (v := 5) hx hb dL_law_1586 (by decide) ?_
  refine lv_iadd hx hb dL_law_1587 ?_
  refine va_sld hx hb hX hbl hbA hS (lw_ix hi hL (rg_c (v := 5) (lo := 5) (hi := 5) (by decide)) (by decide)) dL_law_1588 ?_
  refine lv_aload_n hx hb dL_law_1589 rfl (lv_at hl 3 rfl) ?_
  refine lv_iload_n hx hb dL_law_1590 rfl (lv_at hl 0 rfl) ?_
  refine lv_bipush (v := 6) hx hb dL_law_1591 (by decide) ?_
  refine lv_iadd hx hb dL_law_1593 ?_
  refine va_sld hx hb hX hbl hbA hS (lw_ix hi hL (rg_c (v := 6) (lo := 6) (hi := 6) (by decide)) (by decide)) dL_law_1594 ?_
  refine lw_cX (As := [.int (xs ((nI i) + 1).toNatClampNeg), .int (xs ((nI i) + 2).toNatClampNeg), .int (xs ((nI i) + 3).toNatClampNeg), .int (xs ((nI i) + 4).toNatClampNeg), .int (xs ((nI i) + 5).toNatClampNeg), .int (xs ((nI i) + 6).toNatClampNeg)]) (rest := []) ⟨hx, hb, hml, hown, htg⟩ (c_X6_told l D E G _ a C hT (xs ((nI i) + 1).toNatClampNeg) (xs ((nI i) + 2).toNatClampNeg) (xs ((nI i) + 3).toNatClampNeg) (xs ((nI i) + 4).toNatClampNeg) (xs ((nI i) + 5).toNatClampNeg) (xs ((nI i) + 6).toNatClampNeg)) (cwV 6 htg (oh_gV q_850 q_851 q_852 q_66 q_853) rfl rfl rfl pdVX6_told ⟨Nat.le_of_ble_eq_true rfl, Nat.le_of_ble_eq_true rfl⟩) hK hP hD hG hS hA (va_recv hK (oh_pre_P hP) (ci := 6) (q0 := 0) rfl (oh_wg (by decide) (sX_0 hT))) rfl hl.1 rfl (Nat.le_of_ble_eq_true rfl) dL_law_1595 ⟨show cN + 0 ≤ 600000 by omega, show sN + 0 ≤ 7302250 by omega⟩ (fun r_1 C_3 H locs hq_2 hP hD hS => ?_)
  obtain ⟨hT, f_4, hq_2⟩ := hq_2
  have ht1 : gi (C_3 5) 1 = gi (M 0) 7 := by rw [f_4.1 5 rfl (by decide)]; exact ht1
  have ht2 : gi (C_3 0) 2 = 0 ↔ n = 74 := by rw [show gi (C_3 0) 2 = gi (C 0) 2 from congrArg vi (f_4.2 2 (by decide))]; exact ht2
  have ht3 : ga (C_3 32) = ga (M 7) := Eq.trans (congrArg ga (f_4.1 32 rfl (by decide))) ht3
  have htK := htK.x (fr_all f_4 17 23 (by decide)) (f_4.1 2 rfl (by decide))
  have hAX : absX 10 C_3 A0 := absX_eq hAX (fun k k1 k2 => fr_all f_4 10 15 (by decide) k k1 (by omega))
  have hUX : absTX 1 16 C_3 T0 := absTX_eq hUX (congrArg (fun z => gi z 7) (f_4.1 1 rfl (by decide))) (f_4.1 16 rfl (by decide))
  refine W.widen (k := cN) (n := sN) (Nat.le_refl _) (Nat.le_refl _) ?_
  refine lv_pop hx hb dL_law_1598 rfl ?_
  refine lv_aload_n hx hb dL_law_1599 rfl (lv_at hl 1 rfl) ?_
  refine lv_aload_n hx hb dL_law_1600 rfl (lv_at hl 3 rfl) ?_
  refine lv_iload_n hx hb dL_law_1601 rfl (lv_at hl 0 rfl) ?_
  refine lv_iconst (v := 1) hx hb dL_law_1602 (by decide) ?_
  refine lv_iadd hx hb dL_law_1603 ?_
  refine va_sld hx hb hX hbl hbA hS (lw_ix hi hL (rg_c (v := 1) (lo := 1) (hi := 1) (by decide)) (by decide)) dL_law_1604 ?_
  refine lv_aload_n hx hb dL_law_1605 rfl (lv_at hl 3 rfl) ?_
  refine lv_iload_n hx hb dL_law_1606 rfl (lv_at hl 0 rfl) ?_
  refine lv_iconst (v := 2) hx hb dL_law_1607 (by decide) ?_
  refine lv_iadd hx hb dL_law_1608 ?_
  refine va_sld hx hb hX hbl hbA hS (lw_ix hi hL (rg_c (v := 2) (lo := 2) (hi := 2) (by decide)) (by decide)) dL_law_1609 ?_
  refine lv_aload_n hx hb dL_law_1610 rfl (lv_at hl 3 rfl) ?_
  refine lv_iload_n hx hb dL_law_1611 rfl (lv_at hl 0 rfl) ?_
  refine lv_iconst (v := 3) hx hb dL_law_1612 (by decide) ?_
  refine lv_iadd hx hb dL_law_1613 ?_
  refine va_sld hx hb hX hbl hbA hS (lw_ix hi hL (rg_c (v := 3) (lo := 3) (hi := 3) (by decide)) (by decide)) dL_law_1614 ?_
  refine lv_aload_n hx hb dL_law_1615 rfl (lv_at hl 3 rfl) ?_
  refine lv_iload_n hx hb dL_law_1616 rfl (lv_at hl 0 rfl) ?_
  refine lv_iconst (v := 4) hx hb dL_law_1617 (by decide) ?_
  refine lv_iadd hx hb dL_law_1618 ?_
  refine va_sld hx hb hX hbl hbA hS (lw_ix hi hL (rg_c (v := 4) (lo := 4) (hi := 4) (by decide)) (by decide)) dL_law_1619 ?_
  refine lv_aload_n hx hb dL_law_1620 rfl (lv_at hl 3 rfl) ?_
  refine lv_iload_n hx hb dL_law_1621 rfl (lv_at hl 0 rfl) ?_
  refine lv_iconst (v := 5) hx hb dL_law_1622 (by decide) ?_
  refine lv_iadd hx hb dL_law_1623 ?_
  refine va_sld hx hb hX hbl hbA hS (lw_ix hi hL (rg_c (v := 5) (lo := 5) (hi := 5) (by decide)) (by decide)) dL_law_1624 ?_
  refine lv_aload_n hx hb dL_law_1625 rfl (lv_at hl 3 rfl) ?_
  refine lv_iload_n hx hb dL_law_1626 rfl (lv_at hl 0 rfl) ?_
  refine lv_bipush (v := 6) hx hb dL_law_1627 (by decide) ?_
  refine lv_iadd hx hb dL_law_1629 ?_
  refine va_sld hx hb hX hbl hbA hS (lw_ix hi hL (rg_c (v := 6) (lo := 6) (hi := 6) (by decide)) (by decide)) dL_law_1630 ?_
  refine lw_cM (As := [.int (xs ((nI i) + 1).toNatClampNeg), .int (xs ((nI i) + 2).toNatClampNeg), .int (xs ((nI i) + 3).toNatClampNeg), .int (xs ((nI i) + 4).toNatClampNeg), .int (xs ((nI i) + 5).toNatClampNeg), .int (xs ((nI i) + 6).toNatClampNeg)]) (rest := []) ⟨hx, hb, hml, hown, htg⟩ (c_X7_told_ l D E G _ ma M n hn hTM (xs ((nI i) + 1).toNatClampNeg) (xs ((nI i) + 2).toNatClampNeg) (xs ((nI i) + 3).toNatClampNeg) (xs ((nI i) + 4).toNatClampNeg) (xs ((nI i) + 5).toNatClampNeg) (xs ((nI i) + 6).toNatClampNeg) hR) (cwV 6 htg (oh_gV q_1381 q_1382 q_1383 q_73 q_1384) rfl rfl rfl pdVX7_told_ ⟨Nat.le_of_ble_eq_true rfl, Nat.le_of_ble_eq_true rfl⟩) hK hP hD hG hS hA (va_recv hK (oh_suf_P hP) (ci := 7) (q0 := 0) rfl (oh_wg (by omega) (sM_0 hTM))) rfl hl.1 rfl (Nat.le_of_ble_eq_true rfl) dL_law_1631 ⟨show cN + 0 ≤ 600000 by omega, show sN + 0 ≤ 7302250 by omega⟩ (fun r_5 M_7 H locs hq_6 hP hD hS => ?_)
  have hTM0 := hTM
  obtain ⟨hTM, f_8, hR⟩ := hq_6
  have hkp := kept_fr hkp f_8 (by decide)
  have ht1 : gi (C_3 5) 1 = gi (M_7 0) 7 := by rw [show gi (M_7 0) 7 = gi (M 0) 7 from congrArg vi (f_8.2 7 (by decide))]; exact ht1
  have ht3 : ga (C_3 32) = ga (M_7 7) := Eq.trans ht3 (congrArg ga (f_8.1 7 rfl (by decide))).symm
  have htK := htK.m f_8 (by decide)
  have hAM : absM M_7 A0 := absM_fr hAM hTM0 f_8 (by decide) (by decide) (by decide)
  have hUM : absTM M_7 T0 := absTM_eq hUM (f_8.1 14 rfl (by decide)) (congrArg vi (f_8.2 19 (by decide)))
  refine W.widen (k := cN) (n := sN) (Nat.le_refl _) (Nat.le_refl _) ?_
  refine lv_pop hx hb dL_law_1634 rfl ?_
  refine lv_goto (tgt := 2045) hx hb dL_law_1635 (by decide) ?_
  exact kk ma C_3 M_7 n (cN) (sN) H locs ls hT hTM hR hkp ht1 ht2 ht3 ⟨_, _, hAX, hAM, hok, hUX, hUM⟩ htK (by omega) (by omega) hP hD hS hl

set_option maxHeartbeats 4000000 in
set_option maxRecDepth 100000 in
/-- the law at a call of reach -/
theorem lc_reach {p : Program} {e : Env} {s : State} {m : MethodId} {below : List Frame} {meth : Method} {c : Code} (l : Launch) {b L : Nat} {xs : Nat → Int32} (C0 : lw_At p s m meth c b L xs) (hL : L ≤ 4096) {D : va_G} {E : Nat → ClassId} {G : Nat → Nat} {A : Nat → Prop} (hAe : A = fun q => s.heap.size ≤ q) (hK : va_K D vwCl (oh_ty E) s) (hG : oh_G G A s) {a : Nat → Nat} {i : Nat} (hi : i + 8 ≤ L) {ma : Nat → Nat} {C M : Nat → va_E} {n cN sN : Nat} (hT : TyX a E C) (hTM : TyM ma E M) (hR : RelM M) (hkp : KEPT E n ma M) (ht1 : gi (C 5) 1 = gi (M 0) 7) (ht2 : gi (C 0) 2 = 0 ↔ n = 74) (ht3 : ga (C 32) = ga (M 7)) (htA : ∃ (A0 : LA) (T0 : TP), absX 10 C A0 ∧ absM M A0 ∧ okA A0 ∧ absTX 1 16 C T0 ∧ absTM M T0) (htK : TIEK n C M) (hcN : cN ≤ 35 + n) (hsN : sN ≤ 1477 + 16 * n) {H : Heap} {locs : List Loc} (hP : va_P D vwCl (oh_W 35 a C ++ oh_W n ma M) H) (hD : va_D A (oh_W 35 a C ++ oh_W n ma M)) (hS : va_S A s.heap H locs) {ls : Array Slot} (hl : lv_has ls 4 [(3, .int (nI i)), (2, .ref (ma 0)), (1, .ref (a 0)), (0, .ref b)]) (kk : ∀ (ma : Nat → Nat) (C M : Nat → va_E) (n cN sN : Nat) (H : Heap) (locs : List Loc) (ls : Array Slot), TyX a E C → TyM ma E M → RelM M → KEPT E n ma M → gi (C 5) 1 = gi (M 0) 7 → (gi (C 0) 2 = 0 ↔ n = 74) → ga (C 32) = ga (M 7) → (∃ (A0 : LA) (T0 : TP), absX 10 C A0 ∧ absM M A0 ∧ okA A0 ∧ absTX 1 16 C T0 ∧ absTM M T0) → TIEK n C M → cN ≤ 35 + n → sN ≤ 1477 + 16 * n → va_P D vwCl (oh_W 35 a C ++ oh_W n ma M) H → va_D A (oh_W 35 a C ++ oh_W n ma M) → va_S A s.heap H locs → lv_has ls 4 [(3, .int (nI i)), (2, .ref (ma 0)), (1, .ref (a 0)), (0, .ref b)] → W p l e room_1 s m #[Value.ref b] below meth c H locs cN sN (lw_Z below #[Value.ref b] s) (F0 m 2045 ls [])) : W p l e room_1 s m #[Value.ref b] below meth c H locs cN sN (lw_Z below #[Value.ref b] s) (F0 m 1638 ls []) := by
  obtain ⟨hx, hb, hr, hml, hown, hts, hX, hbl, hlocks, hgv⟩ := id C0
  have hown : s.vm.findClass RL = some m.cls := hown
  have htg : ∀ w ∈ oh_t, w.before _ s = true := fun w h => hts w (List.mem_filter.mp h).1
  have hA : ∀ q, s.heap.size ≤ q → A q := fun q h => by rw [hAe]; exact h
  have hbA : ¬ A b := by rw [hAe]; exact Nat.not_le.mpr hbl
  have hn := hkp.le.1
  have hn8 := hkp.le.2
  have ht10 := ht1
  have ht20 := ht2
  have ht30 := ht3
  obtain ⟨A0, T0, hAX, hAM, hok, hUX, hUM⟩ := htA
  have hAX0 := hAX
  have hAM0 := hAM
  have htK0 := htK
  have hUX0 := hUX
  refine lv_aload_n hx hb dL_law_1638 rfl (lv_at hl 2 rfl) ?_
  refine lv_aload_n hx hb dL_law_1639 rfl (lv_at hl 3 rfl) ?_
  refine lv_iload_n hx hb dL_law_1640 rfl (lv_at hl 0 rfl) ?_
  refine lv_iconst (v := 1) hx hb dL_law_1641 (by decide) ?_
  refine lv_iadd hx hb dL_law_1642 ?_
  refine va_sld hx hb hX hbl hbA hS (lw_ix hi hL (rg_c (v := 1) (lo := 1) (hi := 1) (by decide)) (by decide)) dL_law_1643 ?_
  refine lv_aload_n hx hb dL_law_1644 rfl (lv_at hl 3 rfl) ?_
  refine lv_iload_n hx hb dL_law_1645 rfl (lv_at hl 0 rfl) ?_
  refine lv_iconst (v := 2) hx hb dL_law_1646 (by decide) ?_
  refine lv_iadd hx hb dL_law_1647 ?_
  refine va_sld hx hb hX hbl hbA hS (lw_ix hi hL (rg_c (v := 2) (lo := 2) (hi := 2) (by decide)) (by decide)) dL_law_1648 ?_
  refine lv_aload_n hx hb dL_law_1649 rfl (lv_at hl 3 rfl) ?_
  refine lv_iload_n hx hb dL_law_1650 rfl (lv_at hl 0 rfl) ?_
  refine lv_iconst (v := 3) hx hb dL_law_1651 (by decide) ?_
  refine lv_iadd hx hb dL_law_1652 ?_
  refine va_sld hx hb hX hbl hbA hS (lw_ix hi hL (rg_c (v := 3) (lo := 3) (hi := 3) (by decide)) (by decide)) dL_law_1653 ?_
  refine lw_cX (As := [.int (xs ((nI i) + 1).toNatClampNeg), .int (xs ((nI i) + 2).toNatClampNeg), .int (xs ((nI i) + 3).toNatClampNeg)]) (rest := []) ⟨hx, hb, hml, hown, htg⟩ (e_X6_reach l D E G _ a C hT (xs ((nI i) + 1).toNatClampNeg) (xs ((nI i) + 2).toNatClampNeg) (xs ((nI i) + 3).toNatClampNeg)) (cwV 3 htg (oh_gV q_860 q_861 q_862 q_66 q_863) rfl rfl rfl pdVX6_reach ⟨Nat.le_of_ble_eq_true rfl, Nat.le_of_ble_eq_true rfl⟩) hK hP hD hG hS hA (va_recv hK (oh_pre_P hP) (ci := 6) (q0 := 0) rfl (oh_wg (by decide) (sX_0 hT))) rfl hl.1 rfl (Nat.le_of_ble_eq_true rfl) dL_law_1654 ⟨show cN + 0 ≤ 600000 by omega, show sN + 0 ≤ 7302250 by omega⟩ (fun r_1 C_3 H locs hq_2 hP hD hS => ?_)
  obtain ⟨hT, f_4, hq_2⟩ := hq_2
  have ht1 : gi (C_3 5) 1 = gi (M 0) 7 := by rw [f_4.1 5 rfl (by decide)]; exact ht1
  have ht2 : gi (C_3 0) 2 = 0 ↔ n = 74 := by rw [show gi (C_3 0) 2 = gi (C 0) 2 from congrArg vi (f_4.2 2 (by decide))]; exact ht2
  have ht3 : ga (C_3 32) = ga (M 7) := Eq.trans (congrArg ga (f_4.1 32 rfl (by decide))) ht3
  have htK := htK.x (fr_all f_4 17 23 (by decide)) (f_4.1 2 rfl (by decide))
  have hX_5 := hq_2 A0 hAX0 hok
  have hAX : absX 10 C_3 A0 := absX_eq hAX (fun k k1 k2 => fr_all f_4 10 15 (by decide) k k1 (by omega))
  have hUX : absTX 1 16 C_3 T0 := absTX_eq hUX (congrArg (fun z => gi z 7) (f_4.1 1 rfl (by decide))) (f_4.1 16 rfl (by decide))
  refine W.widen (k := cN) (n := sN) (Nat.le_refl _) (Nat.le_refl _) ?_
  refine lv_aload_n hx hb dL_law_1657 rfl (lv_at hl 1 rfl) ?_
  refine lv_aload_n hx hb dL_law_1658 rfl (lv_at hl 3 rfl) ?_
  refine lv_iload_n hx hb dL_law_1659 rfl (lv_at hl 0 rfl) ?_
  refine lv_iconst (v := 1) hx hb dL_law_1660 (by decide) ?_
  refine lv_iadd hx hb dL_law_1661 ?_
  refine va_sld hx hb hX hbl hbA hS (lw_ix hi hL (rg_c (v := 1) (lo := 1) (hi := 1) (by decide)) (by decide)) dL_law_1662 ?_
  refine lv_aload_n hx hb dL_law_1663 rfl (lv_at hl 3 rfl) ?_
  refine lv_iload_n hx hb dL_law_1664 rfl (lv_at hl 0 rfl) ?_
  refine lv_iconst (v := 2) hx hb dL_law_1665 (by decide) ?_
  refine lv_iadd hx hb dL_law_1666 ?_
  refine va_sld hx hb hX hbl hbA hS (lw_ix hi hL (rg_c (v := 2) (lo := 2) (hi := 2) (by decide)) (by decide)) dL_law_1667 ?_
  refine lv_aload_n hx hb dL_law_1668 rfl (lv_at hl 3 rfl) ?_
  refine lv_iload_n hx hb dL_law_1669 rfl (lv_at hl 0 rfl) ?_
  refine lv_iconst (v := 3) hx hb dL_law_1670 (by decide) ?_
  refine lv_iadd hx hb dL_law_1671 ?_
  refine va_sld hx hb hX hbl hbA hS (lw_ix hi hL (rg_c (v := 3) (lo := 3) (hi := 3) (by decide)) (by decide)) dL_law_1672 ?_
  refine lw_cM (As := [.int (xs ((nI i) + 1).toNatClampNeg), .int (xs ((nI i) + 2).toNatClampNeg), .int (xs ((nI i) + 3).toNatClampNeg)]) (rest := [.int r_1]) ⟨hx, hb, hml, hown, htg⟩ (e_X7_reach l D E G _ ma M n hn hTM (xs ((nI i) + 1).toNatClampNeg) (xs ((nI i) + 2).toNatClampNeg) (xs ((nI i) + 3).toNatClampNeg) hR) (cwV 3 htg (oh_gV q_1389 q_1390 q_1391 q_73 q_1392) rfl rfl rfl pdVX7_reach ⟨Nat.le_of_ble_eq_true rfl, Nat.le_of_ble_eq_true rfl⟩) hK hP hD hG hS hA (va_recv hK (oh_suf_P hP) (ci := 7) (q0 := 0) rfl (oh_wg (by omega) (sM_0 hTM))) rfl hl.1 rfl (Nat.le_of_ble_eq_true rfl) dL_law_1673 ⟨show cN + 0 ≤ 600000 by omega, show sN + 0 ≤ 7302250 by omega⟩ (fun r_6 M_8 H locs hq_7 hP hD hS => ?_)
  have hTM0 := hTM
  obtain ⟨hTM, f_9, hR, hq_7⟩ := hq_7
  have hkp := kept_fr hkp f_9 (by decide)
  have ht1 : gi (C_3 5) 1 = gi (M_8 0) 7 := by rw [show gi (M_8 0) 7 = gi (M 0) 7 from congrArg vi (f_9.2 7 (by decide))]; exact ht1
  have ht3 : ga (C_3 32) = ga (M_8 7) := Eq.trans ht3 (congrArg ga (f_9.1 7 rfl (by decide))).symm
  have htK := htK.m f_9 (by decide)
  have hM_10 := hq_7 A0 hAM0 hok
  have hAM : absM M_8 A0 := absM_fr hAM hTM0 f_9 (by decide) (by decide) (by decide)
  have hUM : absTM M_8 T0 := absTM_eq hUM (f_9.1 14 rfl (by decide)) (congrArg vi (f_9.2 19 (by decide)))
  refine W.widen (k := cN) (n := sN) (Nat.le_refl _) (Nat.le_refl _) ?_
  refine lv_icmp_eq (tgt := 2045) hx hb dL_law_1676 (by decide) (fun _ => ?_) (fun c => absurd (show r_1 = r_6 from (Eq.trans hX_5 (Eq.symm hM_10))) c)
  exact kk ma C_3 M_8 n (cN) (sN) H locs ls hT hTM hR hkp ht1 ht2 ht3 ⟨_, _, hAX, hAM, hok, hUX, hUM⟩ htK (by omega) (by omega) hP hD hS hl

set_option maxHeartbeats 4000000 in
set_option maxRecDepth 100000 in
/-- the law at a call of hang -/
theorem lc_hang {p : Program} {e : Env} {s : State} {m : MethodId} {below : List Frame} {meth : Method} {c : Code} (l : Launch) {b L : Nat} {xs : Nat → Int32} (C0 : lw_At p s m meth c b L xs) (hL : L ≤ 4096) {D : va_G} {E : Nat → ClassId} {G : Nat → Nat} {A : Nat → Prop} (hAe : A = fun q => s.heap.size ≤ q) (hK : va_K D vwCl (oh_ty E) s) (hG : oh_G G A s) {a : Nat → Nat} {i : Nat} (hi : i + 8 ≤ L) {ma : Nat → Nat} {C M : Nat → va_E} {n cN sN : Nat} (hT : TyX a E C) (hTM : TyM ma E M) (hR : RelM M) (hkp : KEPT E n ma M) (ht1 : gi (C 5) 1 = gi (M 0) 7) (ht2 : gi (C 0) 2 = 0 ↔ n = 74) (ht3 : ga (C 32) = ga (M 7)) (htA : ∃ (A0 : LA) (T0 : TP), absX 10 C A0 ∧ absM M A0 ∧ okA A0 ∧ absTX 1 16 C T0 ∧ absTM M T0) (htK : TIEK n C M) (hcN : cN ≤ 35 + n) (hsN : sN ≤ 1477 + 16 * n) {H : Heap} {locs : List Loc} (hP : va_P D vwCl (oh_W 35 a C ++ oh_W n ma M) H) (hD : va_D A (oh_W 35 a C ++ oh_W n ma M)) (hS : va_S A s.heap H locs) {ls : Array Slot} (hl : lv_has ls 4 [(3, .int (nI i)), (2, .ref (ma 0)), (1, .ref (a 0)), (0, .ref b)]) (kk : ∀ (ma : Nat → Nat) (C M : Nat → va_E) (n cN sN : Nat) (H : Heap) (locs : List Loc) (ls : Array Slot), TyX a E C → TyM ma E M → RelM M → KEPT E n ma M → gi (C 5) 1 = gi (M 0) 7 → (gi (C 0) 2 = 0 ↔ n = 74) → ga (C 32) = ga (M 7) → (∃ (A0 : LA) (T0 : TP), absX 10 C A0 ∧ absM M A0 ∧ okA A0 ∧ absTX 1 16 C T0 ∧ absTM M T0) → TIEK n C M → cN ≤ 35 + n → sN ≤ 1477 + 16 * n → va_P D vwCl (oh_W 35 a C ++ oh_W n ma M) H → va_D A (oh_W 35 a C ++ oh_W n ma M) → va_S A s.heap H locs → lv_has ls 4 [(3, .int (nI i)), (2, .ref (ma 0)), (1, .ref (a 0)), (0, .ref b)] → W p l e room_1 s m #[Value.ref b] below meth c H locs cN sN (lw_Z below #[Value.ref b] s) (F0 m 2045 ls [])) : W p l e room_1 s m #[Value.ref b] below meth c H locs cN sN (lw_Z below #[Value.ref b] s) (F0 m 1681 ls []) := by
  obtain ⟨hx, hb, hr, hml, hown, hts, hX, hbl, hlocks, hgv⟩ := id C0
  have hown : s.vm.findClass RL = some m.cls := hown
  have htg : ∀ w ∈ oh_t, w.before _ s = true := fun w h => hts w (List.mem_filter.mp h).1
  have hA : ∀ q, s.heap.size ≤ q → A q := fun q h => by rw [hAe]; exact h
  have hbA : ¬ A b := by rw [hAe]; exact Nat.not_le.mpr hbl
  have hn := hkp.le.1
  have hn8 := hkp.le.2
  have ht10 := ht1
  have ht20 := ht2
  have ht30 := ht3
  obtain ⟨A0, T0, hAX, hAM, hok, hUX, hUM⟩ := htA
  have hAX0 := hAX
  have hAM0 := hAM
  have htK0 := htK
  have hUX0 := hUX
  refine lv_aload_n hx hb dL_law_1681 rfl (lv_at hl 2 rfl) ?_
  refine lv_aload_n hx hb dL_law_1682 rfl (lv_at hl 3 rfl) ?_
  refine lv_iload_n hx hb dL_law_1683 rfl (lv_at hl 0 rfl) ?_
  refine lv_iconst (v := 1) hx hb dL_law_1684 (by decide) ?_
  refine lv_iadd hx hb dL_law_1685 ?_
  refine va_sld hx hb hX hbl hbA hS (lw_ix hi hL (rg_c (v := 1) (lo := 1) (hi := 1) (by decide)) (by decide)) dL_law_1686 ?_
  refine lv_aload_n hx hb dL_law_1687 rfl (lv_at hl 3 rfl) ?_
  refine lv_iload_n hx hb dL_law_1688 rfl (lv_at hl 0 rfl) ?_
  refine lv_iconst (v := 2) hx hb dL_law_1689 (by decide) ?_
  refine lv_iadd hx hb dL_law_1690 ?_
  refine va_sld hx hb hX hbl hbA hS (lw_ix hi hL (rg_c (v := 2) (lo := 2) (hi := 2) (by decide)) (by decide)) dL_law_1691 ?_
  refine lv_aload_n hx hb dL_law_1692 rfl (lv_at hl 3 rfl) ?_
  refine lv_iload_n hx hb dL_law_1693 rfl (lv_at hl 0 rfl) ?_
  refine lv_iconst (v := 3) hx hb dL_law_1694 (by decide) ?_
  refine lv_iadd hx hb dL_law_1695 ?_
  refine va_sld hx hb hX hbl hbA hS (lw_ix hi hL (rg_c (v := 3) (lo := 3) (hi := 3) (by decide)) (by decide)) dL_law_1696 ?_
  refine lv_aload_n hx hb dL_law_1697 rfl (lv_at hl 3 rfl) ?_
  refine lv_iload_n hx hb dL_law_1698 rfl (lv_at hl 0 rfl) ?_
  refine lv_iconst (v := 4) hx hb dL_law_1699 (by decide) ?_
  refine lv_iadd hx hb dL_law_1700 ?_
  refine va_sld hx hb hX hbl hbA hS (lw_ix hi hL (rg_c (v := 4) (lo := 4) (hi := 4) (by decide)) (by decide)) dL_law_1701 ?_
  refine lw_cX (As := [.int (xs ((nI i) + 1).toNatClampNeg), .int (xs ((nI i) + 2).toNatClampNeg), .int (xs ((nI i) + 3).toNatClampNeg), .int (xs ((nI i) + 4).toNatClampNeg)]) (rest := []) ⟨hx, hb, hml, hown, htg⟩ (e_X6_hang l D E G _ a C hT (xs ((nI i) + 1).toNatClampNeg) (xs ((nI i) + 2).toNatClampNeg) (xs ((nI i) + 3).toNatClampNeg) (xs ((nI i) + 4).toNatClampNeg)) (cwV 4 htg (oh_gV q_868 q_869 q_870 q_66 q_871) rfl rfl rfl pdVX6_hang ⟨Nat.le_of_ble_eq_true rfl, Nat.le_of_ble_eq_true rfl⟩) hK hP hD hG hS hA (va_recv hK (oh_pre_P hP) (ci := 6) (q0 := 0) rfl (oh_wg (by decide) (sX_0 hT))) rfl hl.1 rfl (Nat.le_of_ble_eq_true rfl) dL_law_1702 ⟨show cN + 0 ≤ 600000 by omega, show sN + 0 ≤ 7302250 by omega⟩ (fun r_1 C_3 H locs hq_2 hP hD hS => ?_)
  obtain ⟨hT, f_4, hq_2⟩ := hq_2
  have ht1 : gi (C_3 5) 1 = gi (M 0) 7 := by rw [f_4.1 5 rfl (by decide)]; exact ht1
  have ht2 : gi (C_3 0) 2 = 0 ↔ n = 74 := by rw [show gi (C_3 0) 2 = gi (C 0) 2 from congrArg vi (f_4.2 2 (by decide))]; exact ht2
  have ht3 : ga (C_3 32) = ga (M 7) := Eq.trans (congrArg ga (f_4.1 32 rfl (by decide))) ht3
  have htK := htK.x (fr_all f_4 17 23 (by decide)) (f_4.1 2 rfl (by decide))
  have hAX : absX 10 C_3 A0 := absX_g1 12 hAX f_4 hq_2 (by decide)
  have hUX : absTX 1 16 C_3 T0 := absTX_eq hUX (congrArg (fun z => gi z 7) (f_4.1 1 rfl (by decide))) (f_4.1 16 rfl (by decide))
  refine W.widen (k := cN) (n := sN) (Nat.le_refl _) (Nat.le_refl _) ?_
  refine lv_pop hx hb dL_law_1705 rfl ?_
  refine lv_aload_n hx hb dL_law_1706 rfl (lv_at hl 1 rfl) ?_
  refine lv_aload_n hx hb dL_law_1707 rfl (lv_at hl 3 rfl) ?_
  refine lv_iload_n hx hb dL_law_1708 rfl (lv_at hl 0 rfl) ?_
  refine lv_iconst (v := 1) hx hb dL_law_1709 (by decide) ?_
  refine lv_iadd hx hb dL_law_1710 ?_
  refine va_sld hx hb hX hbl hbA hS (lw_ix hi hL (rg_c (v := 1) (lo := 1) (hi := 1) (by decide)) (by decide)) dL_law_1711 ?_
  refine lv_aload_n hx hb dL_law_1712 rfl (lv_at hl 3 rfl) ?_
  refine lv_iload_n hx hb dL_law_1713 rfl (lv_at hl 0 rfl) ?_
  refine lv_iconst (v := 2) hx hb dL_law_1714 (by decide) ?_
  refine lv_iadd hx hb dL_law_1715 ?_
  refine va_sld hx hb hX hbl hbA hS (lw_ix hi hL (rg_c (v := 2) (lo := 2) (hi := 2) (by decide)) (by decide)) dL_law_1716 ?_
  refine lv_aload_n hx hb dL_law_1717 rfl (lv_at hl 3 rfl) ?_
  refine lv_iload_n hx hb dL_law_1718 rfl (lv_at hl 0 rfl) ?_
  refine lv_iconst (v := 3) hx hb dL_law_1719 (by decide) ?_
  refine lv_iadd hx hb dL_law_1720 ?_
  refine va_sld hx hb hX hbl hbA hS (lw_ix hi hL (rg_c (v := 3) (lo := 3) (hi := 3) (by decide)) (by decide)) dL_law_1721 ?_
  refine lv_aload_n hx hb dL_law_1722 rfl (lv_at hl 3 rfl) ?_
  refine lv_iload_n hx hb dL_law_1723 rfl (lv_at hl 0 rfl) ?_
  refine lv_iconst (v := 4) hx hb dL_law_1724 (by decide) ?_
  refine lv_iadd hx hb dL_law_1725 ?_
  refine va_sld hx hb hX hbl hbA hS (lw_ix hi hL (rg_c (v := 4) (lo := 4) (hi := 4) (by decide)) (by decide)) dL_law_1726 ?_
  refine lw_cM (As := [.int (xs ((nI i) + 1).toNatClampNeg), .int (xs ((nI i) + 2).toNatClampNeg), .int (xs ((nI i) + 3).toNatClampNeg), .int (xs ((nI i) + 4).toNatClampNeg)]) (rest := []) ⟨hx, hb, hml, hown, htg⟩ (e_X7_hang l D E G _ ma M n hn hTM (xs ((nI i) + 1).toNatClampNeg) (xs ((nI i) + 2).toNatClampNeg) (xs ((nI i) + 3).toNatClampNeg) (xs ((nI i) + 4).toNatClampNeg) hR) (cwV 4 htg (oh_gV q_1393 q_1394 q_1395 q_73 q_1396) rfl rfl rfl pdVX7_hang ⟨Nat.le_of_ble_eq_true rfl, Nat.le_of_ble_eq_true rfl⟩) hK hP hD hG hS hA (va_recv hK (oh_suf_P hP) (ci := 7) (q0 := 0) rfl (oh_wg (by omega) (sM_0 hTM))) rfl hl.1 rfl (Nat.le_of_ble_eq_true rfl) dL_law_1727 ⟨show cN + 0 ≤ 600000 by omega, show sN + 0 ≤ 7302250 by omega⟩ (fun r_5 M_7 H locs hq_6 hP hD hS => ?_)
  have hTM0 := hTM
  obtain ⟨hTM, f_8, hR, hq_6⟩ := hq_6
  have hkp := kept_fr hkp f_8 (by decide)
  have ht1 : gi (C_3 5) 1 = gi (M_7 0) 7 := by rw [show gi (M_7 0) 7 = gi (M 0) 7 from congrArg vi (f_8.2 7 (by decide))]; exact ht1
  have ht3 : ga (C_3 32) = ga (M_7 7) := Eq.trans ht3 (congrArg ga (f_8.1 7 rfl (by decide))).symm
  have htK := htK.m f_8 (by decide)
  have hAM := hq_6 A0 hAM
  have hUM : absTM M_7 T0 := absTM_eq hUM (f_8.1 14 rfl (by decide)) (congrArg vi (f_8.2 19 (by decide)))
  refine W.widen (k := cN) (n := sN) (Nat.le_refl _) (Nat.le_refl _) ?_
  refine lv_pop hx hb dL_law_1730 rfl ?_
  refine lv_goto (tgt := 2045) hx hb dL_law_1731 (by decide) ?_
  exact kk ma C_3 M_7 n (cN) (sN) H locs ls hT hTM hR hkp ht1 ht2 ht3 ⟨_, _, hAX, hAM, hok, hUX, hUM⟩ htK (by omega) (by omega) hP hD hS hl

set_option maxHeartbeats 4000000 in
set_option maxRecDepth 100000 in
/-- the law at a call of fewest -/
theorem lc_fewest {p : Program} {e : Env} {s : State} {m : MethodId} {below : List Frame} {meth : Method} {c : Code} (l : Launch) {b L : Nat} {xs : Nat → Int32} (C0 : lw_At p s m meth c b L xs) (hL : L ≤ 4096) {D : va_G} {E : Nat → ClassId} {G : Nat → Nat} {A : Nat → Prop} (hAe : A = fun q => s.heap.size ≤ q) (hK : va_K D vwCl (oh_ty E) s) (hG : oh_G G A s) {a : Nat → Nat} {i : Nat} (hi : i + 8 ≤ L) {ma : Nat → Nat} {C M : Nat → va_E} {n cN sN : Nat} (hT : TyX a E C) (hTM : TyM ma E M) (hR : RelM M) (hkp : KEPT E n ma M) (ht1 : gi (C 5) 1 = gi (M 0) 7) (ht2 : gi (C 0) 2 = 0 ↔ n = 74) (ht3 : ga (C 32) = ga (M 7)) (htA : ∃ (A0 : LA) (T0 : TP), absX 10 C A0 ∧ absM M A0 ∧ okA A0 ∧ absTX 1 16 C T0 ∧ absTM M T0) (htK : TIEK n C M) (hcN : cN ≤ 35 + n) (hsN : sN ≤ 1477 + 16 * n) {H : Heap} {locs : List Loc} (hP : va_P D vwCl (oh_W 35 a C ++ oh_W n ma M) H) (hD : va_D A (oh_W 35 a C ++ oh_W n ma M)) (hS : va_S A s.heap H locs) {ls : Array Slot} (hl : lv_has ls 4 [(3, .int (nI i)), (2, .ref (ma 0)), (1, .ref (a 0)), (0, .ref b)]) (kk : ∀ (ma : Nat → Nat) (C M : Nat → va_E) (n cN sN : Nat) (H : Heap) (locs : List Loc) (ls : Array Slot), TyX a E C → TyM ma E M → RelM M → KEPT E n ma M → gi (C 5) 1 = gi (M 0) 7 → (gi (C 0) 2 = 0 ↔ n = 74) → ga (C 32) = ga (M 7) → (∃ (A0 : LA) (T0 : TP), absX 10 C A0 ∧ absM M A0 ∧ okA A0 ∧ absTX 1 16 C T0 ∧ absTM M T0) → TIEK n C M → cN ≤ 35 + n → sN ≤ 1477 + 16 * n → va_P D vwCl (oh_W 35 a C ++ oh_W n ma M) H → va_D A (oh_W 35 a C ++ oh_W n ma M) → va_S A s.heap H locs → lv_has ls 4 [(3, .int (nI i)), (2, .ref (ma 0)), (1, .ref (a 0)), (0, .ref b)] → W p l e room_1 s m #[Value.ref b] below meth c H locs cN sN (lw_Z below #[Value.ref b] s) (F0 m 2045 ls [])) : W p l e room_1 s m #[Value.ref b] below meth c H locs cN sN (lw_Z below #[Value.ref b] s) (F0 m 1734 ls []) := by
  obtain ⟨hx, hb, hr, hml, hown, hts, hX, hbl, hlocks, hgv⟩ := id C0
  have hown : s.vm.findClass RL = some m.cls := hown
  have htg : ∀ w ∈ oh_t, w.before _ s = true := fun w h => hts w (List.mem_filter.mp h).1
  have hA : ∀ q, s.heap.size ≤ q → A q := fun q h => by rw [hAe]; exact h
  have hbA : ¬ A b := by rw [hAe]; exact Nat.not_le.mpr hbl
  have hn := hkp.le.1
  have hn8 := hkp.le.2
  have ht10 := ht1
  have ht20 := ht2
  have ht30 := ht3
  obtain ⟨A0, T0, hAX, hAM, hok, hUX, hUM⟩ := htA
  have hAX0 := hAX
  have hAM0 := hAM
  have htK0 := htK
  have hUX0 := hUX
  refine lv_aload_n hx hb dL_law_1734 rfl (lv_at hl 2 rfl) ?_
  refine lv_aload_n hx hb dL_law_1735 rfl (lv_at hl 3 rfl) ?_
  refine lv_iload_n hx hb dL_law_1736 rfl (lv_at hl 0 rfl) ?_
  refine lv_iconst (v := 1) hx hb dL_law_1737 (by decide) ?_
  refine lv_iadd hx hb dL_law_1738 ?_
  refine va_sld hx hb hX hbl hbA hS (lw_ix hi hL (rg_c (v := 1) (lo := 1) (hi := 1) (by decide)) (by decide)) dL_law_1739 ?_
  refine lv_aload_n hx hb dL_law_1740 rfl (lv_at hl 3 rfl) ?_
  refine lv_iload_n hx hb dL_law_1741 rfl (lv_at hl 0 rfl) ?_
  refine lv_iconst (v := 2) hx hb dL_law_1742 (by decide) ?_
  refine lv_iadd hx hb dL_law_1743 ?_
  refine va_sld hx hb hX hbl hbA hS (lw_ix hi hL (rg_c (v := 2) (lo := 2) (hi := 2) (by decide)) (by decide)) dL_law_1744 ?_
  refine lv_aload_n hx hb dL_law_1745 rfl (lv_at hl 3 rfl) ?_
  refine lv_iload_n hx hb dL_law_1746 rfl (lv_at hl 0 rfl) ?_
  refine lv_iconst (v := 3) hx hb dL_law_1747 (by decide) ?_
  refine lv_iadd hx hb dL_law_1748 ?_
  refine va_sld hx hb hX hbl hbA hS (lw_ix hi hL (rg_c (v := 3) (lo := 3) (hi := 3) (by decide)) (by decide)) dL_law_1749 ?_
  refine lw_cX (As := [.int (xs ((nI i) + 1).toNatClampNeg), .int (xs ((nI i) + 2).toNatClampNeg), .int (xs ((nI i) + 3).toNatClampNeg)]) (rest := []) ⟨hx, hb, hml, hown, htg⟩ (c_X6_fewest l D E G _ a C hT (xs ((nI i) + 1).toNatClampNeg) (xs ((nI i) + 2).toNatClampNeg) (xs ((nI i) + 3).toNatClampNeg)) (cwV 3 htg (oh_gV q_876 q_877 q_878 q_66 q_879) rfl rfl rfl pdVX6_fewest ⟨Nat.le_of_ble_eq_true rfl, Nat.le_of_ble_eq_true rfl⟩) hK hP hD hG hS hA (va_recv hK (oh_pre_P hP) (ci := 6) (q0 := 0) rfl (oh_wg (by decide) (sX_0 hT))) rfl hl.1 rfl (Nat.le_of_ble_eq_true rfl) dL_law_1750 ⟨show cN + 0 ≤ 600000 by omega, show sN + 0 ≤ 7302250 by omega⟩ (fun r_1 C_3 H locs hq_2 hP hD hS => ?_)
  obtain ⟨hT, f_4, hq_2⟩ := hq_2
  have ht1 : gi (C_3 5) 1 = gi (M 0) 7 := by rw [f_4.1 5 rfl (by decide)]; exact ht1
  have ht2 : gi (C_3 0) 2 = 0 ↔ n = 74 := by rw [show gi (C_3 0) 2 = gi (C 0) 2 from congrArg vi (f_4.2 2 (by decide))]; exact ht2
  have ht3 : ga (C_3 32) = ga (M 7) := Eq.trans (congrArg ga (f_4.1 32 rfl (by decide))) ht3
  have htK := htK.x (fr_all f_4 17 23 (by decide)) (f_4.1 2 rfl (by decide))
  have hAX : absX 10 C_3 A0 := absX_eq hAX (fun k k1 k2 => fr_all f_4 10 15 (by decide) k k1 (by omega))
  have hUX : absTX 1 16 C_3 T0 := absTX_eq hUX (congrArg (fun z => gi z 7) (f_4.1 1 rfl (by decide))) (f_4.1 16 rfl (by decide))
  refine W.widen (k := cN) (n := sN) (Nat.le_refl _) (Nat.le_refl _) ?_
  refine lv_pop hx hb dL_law_1753 rfl ?_
  refine lv_aload_n hx hb dL_law_1754 rfl (lv_at hl 1 rfl) ?_
  refine lv_aload_n hx hb dL_law_1755 rfl (lv_at hl 3 rfl) ?_
  refine lv_iload_n hx hb dL_law_1756 rfl (lv_at hl 0 rfl) ?_
  refine lv_iconst (v := 1) hx hb dL_law_1757 (by decide) ?_
  refine lv_iadd hx hb dL_law_1758 ?_
  refine va_sld hx hb hX hbl hbA hS (lw_ix hi hL (rg_c (v := 1) (lo := 1) (hi := 1) (by decide)) (by decide)) dL_law_1759 ?_
  refine lv_aload_n hx hb dL_law_1760 rfl (lv_at hl 3 rfl) ?_
  refine lv_iload_n hx hb dL_law_1761 rfl (lv_at hl 0 rfl) ?_
  refine lv_iconst (v := 2) hx hb dL_law_1762 (by decide) ?_
  refine lv_iadd hx hb dL_law_1763 ?_
  refine va_sld hx hb hX hbl hbA hS (lw_ix hi hL (rg_c (v := 2) (lo := 2) (hi := 2) (by decide)) (by decide)) dL_law_1764 ?_
  refine lv_aload_n hx hb dL_law_1765 rfl (lv_at hl 3 rfl) ?_
  refine lv_iload_n hx hb dL_law_1766 rfl (lv_at hl 0 rfl) ?_
  refine lv_iconst (v := 3) hx hb dL_law_1767 (by decide) ?_
  refine lv_iadd hx hb dL_law_1768 ?_
  refine va_sld hx hb hX hbl hbA hS (lw_ix hi hL (rg_c (v := 3) (lo := 3) (hi := 3) (by decide)) (by decide)) dL_law_1769 ?_
  refine lw_cM (As := [.int (xs ((nI i) + 1).toNatClampNeg), .int (xs ((nI i) + 2).toNatClampNeg), .int (xs ((nI i) + 3).toNatClampNeg)]) (rest := []) ⟨hx, hb, hml, hown, htg⟩ (c_X7_fewest l D E G _ ma M n hn hTM (xs ((nI i) + 1).toNatClampNeg) (xs ((nI i) + 2).toNatClampNeg) (xs ((nI i) + 3).toNatClampNeg) hR) (cwV 3 htg (oh_gV q_1397 q_1398 q_1399 q_73 q_1400) rfl rfl rfl pdVX7_fewest ⟨Nat.le_of_ble_eq_true rfl, Nat.le_of_ble_eq_true rfl⟩) hK hP hD hG hS hA (va_recv hK (oh_suf_P hP) (ci := 7) (q0 := 0) rfl (oh_wg (by omega) (sM_0 hTM))) rfl hl.1 rfl (Nat.le_of_ble_eq_true rfl) dL_law_1770 ⟨show cN + 0 ≤ 600000 by omega, show sN + 0 ≤ 7302250 by omega⟩ (fun r_5 M_7 H locs hq_6 hP hD hS => ?_)
  have hTM0 := hTM
  obtain ⟨hTM, f_8, hR⟩ := hq_6
  have hkp := kept_fr hkp f_8 (by decide)
  have ht1 : gi (C_3 5) 1 = gi (M_7 0) 7 := by rw [show gi (M_7 0) 7 = gi (M 0) 7 from congrArg vi (f_8.2 7 (by decide))]; exact ht1
  have ht3 : ga (C_3 32) = ga (M_7 7) := Eq.trans ht3 (congrArg ga (f_8.1 7 rfl (by decide))).symm
  have htK := htK.m f_8 (by decide)
  have hAM : absM M_7 A0 := absM_fr hAM hTM0 f_8 (by decide) (by decide) (by decide)
  have hUM : absTM M_7 T0 := absTM_eq hUM (f_8.1 14 rfl (by decide)) (congrArg vi (f_8.2 19 (by decide)))
  refine W.widen (k := cN) (n := sN) (Nat.le_refl _) (Nat.le_refl _) ?_
  refine lv_pop hx hb dL_law_1773 rfl ?_
  refine lv_goto (tgt := 2045) hx hb dL_law_1774 (by decide) ?_
  exact kk ma C_3 M_7 n (cN) (sN) H locs ls hT hTM hR hkp ht1 ht2 ht3 ⟨_, _, hAX, hAM, hok, hUX, hUM⟩ htK (by omega) (by omega) hP hD hS hl

set_option maxHeartbeats 4000000 in
set_option maxRecDepth 100000 in
/-- the law at a call of most -/
theorem lc_most {p : Program} {e : Env} {s : State} {m : MethodId} {below : List Frame} {meth : Method} {c : Code} (l : Launch) {b L : Nat} {xs : Nat → Int32} (C0 : lw_At p s m meth c b L xs) (hL : L ≤ 4096) {D : va_G} {E : Nat → ClassId} {G : Nat → Nat} {A : Nat → Prop} (hAe : A = fun q => s.heap.size ≤ q) (hK : va_K D vwCl (oh_ty E) s) (hG : oh_G G A s) {a : Nat → Nat} {i : Nat} (hi : i + 8 ≤ L) {ma : Nat → Nat} {C M : Nat → va_E} {n cN sN : Nat} (hT : TyX a E C) (hTM : TyM ma E M) (hR : RelM M) (hkp : KEPT E n ma M) (ht1 : gi (C 5) 1 = gi (M 0) 7) (ht2 : gi (C 0) 2 = 0 ↔ n = 74) (ht3 : ga (C 32) = ga (M 7)) (htA : ∃ (A0 : LA) (T0 : TP), absX 10 C A0 ∧ absM M A0 ∧ okA A0 ∧ absTX 1 16 C T0 ∧ absTM M T0) (htK : TIEK n C M) (hcN : cN ≤ 35 + n) (hsN : sN ≤ 1477 + 16 * n) {H : Heap} {locs : List Loc} (hP : va_P D vwCl (oh_W 35 a C ++ oh_W n ma M) H) (hD : va_D A (oh_W 35 a C ++ oh_W n ma M)) (hS : va_S A s.heap H locs) {ls : Array Slot} (hl : lv_has ls 4 [(3, .int (nI i)), (2, .ref (ma 0)), (1, .ref (a 0)), (0, .ref b)]) (kk : ∀ (ma : Nat → Nat) (C M : Nat → va_E) (n cN sN : Nat) (H : Heap) (locs : List Loc) (ls : Array Slot), TyX a E C → TyM ma E M → RelM M → KEPT E n ma M → gi (C 5) 1 = gi (M 0) 7 → (gi (C 0) 2 = 0 ↔ n = 74) → ga (C 32) = ga (M 7) → (∃ (A0 : LA) (T0 : TP), absX 10 C A0 ∧ absM M A0 ∧ okA A0 ∧ absTX 1 16 C T0 ∧ absTM M T0) → TIEK n C M → cN ≤ 35 + n → sN ≤ 1477 + 16 * n → va_P D vwCl (oh_W 35 a C ++ oh_W n ma M) H → va_D A (oh_W 35 a C ++ oh_W n ma M) → va_S A s.heap H locs → lv_has ls 4 [(3, .int (nI i)), (2, .ref (ma 0)), (1, .ref (a 0)), (0, .ref b)] → W p l e room_1 s m #[Value.ref b] below meth c H locs cN sN (lw_Z below #[Value.ref b] s) (F0 m 2045 ls [])) : W p l e room_1 s m #[Value.ref b] below meth c H locs cN sN (lw_Z below #[Value.ref b] s) (F0 m 1777 ls []) := by
  obtain ⟨hx, hb, hr, hml, hown, hts, hX, hbl, hlocks, hgv⟩ := id C0
  have hown : s.vm.findClass RL = some m.cls := hown
  have htg : ∀ w ∈ oh_t, w.before _ s = true := fun w h => hts w (List.mem_filter.mp h).1
  have hA : ∀ q, s.heap.size ≤ q → A q := fun q h => by rw [hAe]; exact h
  have hbA : ¬ A b := by rw [hAe]; exact Nat.not_le.mpr hbl
  have hn := hkp.le.1
  have hn8 := hkp.le.2
  have ht10 := ht1
  have ht20 := ht2
  have ht30 := ht3
  obtain ⟨A0, T0, hAX, hAM, hok, hUX, hUM⟩ := htA
  have hAX0 := hAX
  have hAM0 := hAM
  have htK0 := htK
  have hUX0 := hUX
  refine lv_aload_n hx hb dL_law_1777 rfl (lv_at hl 2 rfl) ?_
  refine lv_aload_n hx hb dL_law_1778 rfl (lv_at hl 3 rfl) ?_
  refine lv_iload_n hx hb dL_law_1779 rfl (lv_at hl 0 rfl) ?_
  refine lv_iconst (v := 1) hx hb dL_law_1780 (by decide) ?_
  refine lv_iadd hx hb dL_law_1781 ?_
  refine va_sld hx hb hX hbl hbA hS (lw_ix hi hL (rg_c (v := 1) (lo := 1) (hi := 1) (by decide)) (by decide)) dL_law_1782 ?_
  refine lv_aload_n hx hb dL_law_1783 rfl (lv_at hl 3 rfl) ?_
  refine lv_iload_n hx hb dL_law_1784 rfl (lv_at hl 0 rfl) ?_
  refine lv_iconst (v := 2) hx hb dL_law_1785 (by decide) ?_
  refine lv_iadd hx hb dL_law_1786 ?_
  refine va_sld hx hb hX hbl hbA hS (lw_ix hi hL (rg_c (v := 2) (lo := 2) (hi := 2) (by decide)) (by decide)) dL_law_1787 ?_
  refine lv_aload_n hx hb dL_law_1788 rfl (lv_at hl 3 rfl) ?_
  refine lv_iload_n hx hb dL_law_1789 rfl (lv_at hl 0 rfl) ?_
  refine lv_iconst (v := 3) hx hb dL_law_1790 (by decide) ?_
  refine lv_iadd hx hb dL_law_1791 ?_
  refine va_sld hx hb hX hbl hbA hS (lw_ix hi hL (rg_c (v := 3) (lo := 3) (hi := 3) (by decide)) (by decide)) dL_law_1792 ?_
  refine lw_cX (As := [.int (xs ((nI i) + 1).toNatClampNeg), .int (xs ((nI i) + 2).toNatClampNeg), .int (xs ((nI i) + 3).toNatClampNeg)]) (rest := []) ⟨hx, hb, hml, hown, htg⟩ (e_X6_most l D E G _ a C hT (xs ((nI i) + 1).toNatClampNeg) (xs ((nI i) + 2).toNatClampNeg) (xs ((nI i) + 3).toNatClampNeg)) (cwV 3 htg (oh_gV q_885 q_886 q_887 q_66 q_888) rfl rfl rfl pdVX6_most ⟨Nat.le_of_ble_eq_true rfl, Nat.le_of_ble_eq_true rfl⟩) hK hP hD hG hS hA (va_recv hK (oh_pre_P hP) (ci := 6) (q0 := 0) rfl (oh_wg (by decide) (sX_0 hT))) rfl hl.1 rfl (Nat.le_of_ble_eq_true rfl) dL_law_1793 ⟨show cN + 0 ≤ 600000 by omega, show sN + 0 ≤ 7302250 by omega⟩ (fun r_1 C_3 H locs hq_2 hP hD hS => ?_)
  obtain ⟨hT, f_4, hq_2⟩ := hq_2
  have ht1 : gi (C_3 5) 1 = gi (M 0) 7 := by rw [f_4.1 5 rfl (by decide)]; exact ht1
  have ht2 : gi (C_3 0) 2 = 0 ↔ n = 74 := by rw [show gi (C_3 0) 2 = gi (C 0) 2 from congrArg vi (f_4.2 2 (by decide))]; exact ht2
  have ht3 : ga (C_3 32) = ga (M 7) := Eq.trans (congrArg ga (f_4.1 32 rfl (by decide))) ht3
  have htK := htK.x (fr_all f_4 17 23 (by decide)) (f_4.1 2 rfl (by decide))
  have hAX : absX 10 C_3 A0 := absX_g1 15 hAX f_4 hq_2 (by decide)
  have hUX : absTX 1 16 C_3 T0 := absTX_eq hUX (congrArg (fun z => gi z 7) (f_4.1 1 rfl (by decide))) (f_4.1 16 rfl (by decide))
  refine W.widen (k := cN) (n := sN) (Nat.le_refl _) (Nat.le_refl _) ?_
  refine lv_pop hx hb dL_law_1796 rfl ?_
  refine lv_aload_n hx hb dL_law_1797 rfl (lv_at hl 1 rfl) ?_
  refine lv_aload_n hx hb dL_law_1798 rfl (lv_at hl 3 rfl) ?_
  refine lv_iload_n hx hb dL_law_1799 rfl (lv_at hl 0 rfl) ?_
  refine lv_iconst (v := 1) hx hb dL_law_1800 (by decide) ?_
  refine lv_iadd hx hb dL_law_1801 ?_
  refine va_sld hx hb hX hbl hbA hS (lw_ix hi hL (rg_c (v := 1) (lo := 1) (hi := 1) (by decide)) (by decide)) dL_law_1802 ?_
  refine lv_aload_n hx hb dL_law_1803 rfl (lv_at hl 3 rfl) ?_
  refine lv_iload_n hx hb dL_law_1804 rfl (lv_at hl 0 rfl) ?_
  refine lv_iconst (v := 2) hx hb dL_law_1805 (by decide) ?_
  refine lv_iadd hx hb dL_law_1806 ?_
  refine va_sld hx hb hX hbl hbA hS (lw_ix hi hL (rg_c (v := 2) (lo := 2) (hi := 2) (by decide)) (by decide)) dL_law_1807 ?_
  refine lv_aload_n hx hb dL_law_1808 rfl (lv_at hl 3 rfl) ?_
  refine lv_iload_n hx hb dL_law_1809 rfl (lv_at hl 0 rfl) ?_
  refine lv_iconst (v := 3) hx hb dL_law_1810 (by decide) ?_
  refine lv_iadd hx hb dL_law_1811 ?_
  refine va_sld hx hb hX hbl hbA hS (lw_ix hi hL (rg_c (v := 3) (lo := 3) (hi := 3) (by decide)) (by decide)) dL_law_1812 ?_
  refine lw_cM (As := [.int (xs ((nI i) + 1).toNatClampNeg), .int (xs ((nI i) + 2).toNatClampNeg), .int (xs ((nI i) + 3).toNatClampNeg)]) (rest := []) ⟨hx, hb, hml, hown, htg⟩ (e_X7_most l D E G _ ma M n hn hTM (xs ((nI i) + 1).toNatClampNeg) (xs ((nI i) + 2).toNatClampNeg) (xs ((nI i) + 3).toNatClampNeg) hR) (cwV 3 htg (oh_gV q_1401 q_1402 q_1403 q_73 q_1404) rfl rfl rfl pdVX7_most ⟨Nat.le_of_ble_eq_true rfl, Nat.le_of_ble_eq_true rfl⟩) hK hP hD hG hS hA (va_recv hK (oh_suf_P hP) (ci := 7) (q0 := 0) rfl (oh_wg (by omega) (sM_0 hTM))) rfl hl.1 rfl (Nat.le_of_ble_eq_true rfl) dL_law_1813 ⟨show cN + 0 ≤ 600000 by omega, show sN + 0 ≤ 7302250 by omega⟩ (fun r_5 M_7 H locs hq_6 hP hD hS => ?_)
  have hTM0 := hTM
  obtain ⟨hTM, f_8, hR, hq_6⟩ := hq_6
  have hkp := kept_fr hkp f_8 (by decide)
  have ht1 : gi (C_3 5) 1 = gi (M_7 0) 7 := by rw [show gi (M_7 0) 7 = gi (M 0) 7 from congrArg vi (f_8.2 7 (by decide))]; exact ht1
  have ht3 : ga (C_3 32) = ga (M_7 7) := Eq.trans ht3 (congrArg ga (f_8.1 7 rfl (by decide))).symm
  have htK := htK.m f_8 (by decide)
  have hAM : absM M_7 A0 := absM_13 hAM hTM0 hq_6 f_8 (by decide) (by decide)
  have hUM : absTM M_7 T0 := absTM_eq hUM (f_8.1 14 rfl (by decide)) (congrArg vi (f_8.2 19 (by decide)))
  refine W.widen (k := cN) (n := sN) (Nat.le_refl _) (Nat.le_refl _) ?_
  refine lv_pop hx hb dL_law_1816 rfl ?_
  refine lv_goto (tgt := 2045) hx hb dL_law_1817 (by decide) ?_
  exact kk ma C_3 M_7 n (cN) (sN) H locs ls hT hTM hR hkp ht1 ht2 ht3 ⟨_, _, hAX, hAM, hok, hUX, hUM⟩ htK (by omega) (by omega) hP hD hS hl

set_option maxHeartbeats 4000000 in
set_option maxRecDepth 100000 in
/-- the law at a call of frost -/
theorem lc_frost {p : Program} {e : Env} {s : State} {m : MethodId} {below : List Frame} {meth : Method} {c : Code} (l : Launch) {b L : Nat} {xs : Nat → Int32} (C0 : lw_At p s m meth c b L xs) (hL : L ≤ 4096) {D : va_G} {E : Nat → ClassId} {G : Nat → Nat} {A : Nat → Prop} (hAe : A = fun q => s.heap.size ≤ q) (hK : va_K D vwCl (oh_ty E) s) (hG : oh_G G A s) {a : Nat → Nat} {i : Nat} (hi : i + 8 ≤ L) {ma : Nat → Nat} {C M : Nat → va_E} {n cN sN : Nat} (hT : TyX a E C) (hTM : TyM ma E M) (hR : RelM M) (hkp : KEPT E n ma M) (ht1 : gi (C 5) 1 = gi (M 0) 7) (ht2 : gi (C 0) 2 = 0 ↔ n = 74) (ht3 : ga (C 32) = ga (M 7)) (htA : ∃ (A0 : LA) (T0 : TP), absX 10 C A0 ∧ absM M A0 ∧ okA A0 ∧ absTX 1 16 C T0 ∧ absTM M T0) (htK : TIEK n C M) (hcN : cN ≤ 35 + n) (hsN : sN ≤ 1477 + 16 * n) {H : Heap} {locs : List Loc} (hP : va_P D vwCl (oh_W 35 a C ++ oh_W n ma M) H) (hD : va_D A (oh_W 35 a C ++ oh_W n ma M)) (hS : va_S A s.heap H locs) {ls : Array Slot} (hl : lv_has ls 4 [(3, .int (nI i)), (2, .ref (ma 0)), (1, .ref (a 0)), (0, .ref b)]) (kk : ∀ (ma : Nat → Nat) (C M : Nat → va_E) (n cN sN : Nat) (H : Heap) (locs : List Loc) (ls : Array Slot), TyX a E C → TyM ma E M → RelM M → KEPT E n ma M → gi (C 5) 1 = gi (M 0) 7 → (gi (C 0) 2 = 0 ↔ n = 74) → ga (C 32) = ga (M 7) → (∃ (A0 : LA) (T0 : TP), absX 10 C A0 ∧ absM M A0 ∧ okA A0 ∧ absTX 1 16 C T0 ∧ absTM M T0) → TIEK n C M → cN ≤ 35 + n → sN ≤ 1477 + 16 * n → va_P D vwCl (oh_W 35 a C ++ oh_W n ma M) H → va_D A (oh_W 35 a C ++ oh_W n ma M) → va_S A s.heap H locs → lv_has ls 4 [(3, .int (nI i)), (2, .ref (ma 0)), (1, .ref (a 0)), (0, .ref b)] → W p l e room_1 s m #[Value.ref b] below meth c H locs cN sN (lw_Z below #[Value.ref b] s) (F0 m 2045 ls [])) : W p l e room_1 s m #[Value.ref b] below meth c H locs cN sN (lw_Z below #[Value.ref b] s) (F0 m 1820 ls []) := by
  obtain ⟨hx, hb, hr, hml, hown, hts, hX, hbl, hlocks, hgv⟩ := id C0
  have hown : s.vm.findClass RL = some m.cls := hown
  have htg : ∀ w ∈ oh_t, w.before _ s = true := fun w h => hts w (List.mem_filter.mp h).1
  have hA : ∀ q, s.heap.size ≤ q → A q := fun q h => by rw [hAe]; exact h
  have hbA : ¬ A b := by rw [hAe]; exact Nat.not_le.mpr hbl
  have hn := hkp.le.1
  have hn8 := hkp.le.2
  have ht10 := ht1
  have ht20 := ht2
  have ht30 := ht3
  obtain ⟨A0, T0, hAX, hAM, hok, hUX, hUM⟩ := htA
  have hAX0 := hAX
  have hAM0 := hAM
  have htK0 := htK
  have hUX0 := hUX
  refine lv_aload_n hx hb dL_law_1820 rfl (lv_at hl 2 rfl) ?_
  refine lv_aload_n hx hb dL_law_1821 rfl (lv_at hl 3 rfl) ?_
  refine lv_iload_n hx hb dL_law_1822 rfl (lv_at hl 0 rfl) ?_
  refine lv_iconst (v := 1) hx hb dL_law_1823 (by decide) ?_
  refine lv_iadd hx hb dL_law_1824 ?_
  refine va_sld hx hb hX hbl hbA hS (lw_ix hi hL (rg_c (v := 1) (lo := 1) (hi := 1) (by decide)) (by decide)) dL_law_1825 ?_
  refine lv_aload_n hx hb dL_law_1826 rfl (lv_at hl 3 rfl) ?_
  refine lv_iload_n hx hb dL_law_1827 rfl (lv_at hl 0 rfl) ?_
  refine lv_iconst (v := 2) hx hb dL_law_1828 (by decide) ?_
  refine lv_iadd hx hb dL_law_1829 ?_
  refine va_sld hx hb hX hbl hbA hS (lw_ix hi hL (rg_c (v := 2) (lo := 2) (hi := 2) (by decide)) (by decide)) dL_law_1830 ?_
  refine lv_aload_n hx hb dL_law_1831 rfl (lv_at hl 3 rfl) ?_
  refine lv_iload_n hx hb dL_law_1832 rfl (lv_at hl 0 rfl) ?_
  refine lv_iconst (v := 3) hx hb dL_law_1833 (by decide) ?_
  refine lv_iadd hx hb dL_law_1834 ?_
  refine va_sld hx hb hX hbl hbA hS (lw_ix hi hL (rg_c (v := 3) (lo := 3) (hi := 3) (by decide)) (by decide)) dL_law_1835 ?_
  refine lv_aload_n hx hb dL_law_1836 rfl (lv_at hl 3 rfl) ?_
  refine lv_iload_n hx hb dL_law_1837 rfl (lv_at hl 0 rfl) ?_
  refine lv_iconst (v := 4) hx hb dL_law_1838 (by decide) ?_
  refine lv_iadd hx hb dL_law_1839 ?_
  refine va_sld hx hb hX hbl hbA hS (lw_ix hi hL (rg_c (v := 4) (lo := 4) (hi := 4) (by decide)) (by decide)) dL_law_1840 ?_
  refine lv_aload_n hx hb dL_law_1841 rfl (lv_at hl 3 rfl) ?_
  refine lv_iload_n hx hb dL_law_1842 rfl (lv_at hl 0 rfl) ?_
  refine lv_iconst (v := 5) hx hb dL_law_1843 (by decide) ?_
  refine lv_iadd hx hb dL_law_1844 ?_
  refine va_sld hx hb hX hbl hbA hS (lw_ix hi hL (rg_c (v := 5) (lo := 5) (hi := 5) (by decide)) (by decide)) dL_law_1845 ?_
  refine lv_aload_n hx hb dL_law_1846 rfl (lv_at hl 3 rfl) ?_
  refine lv_iload_n hx hb dL_law_1847 rfl (lv_at hl 0 rfl) ?_
  refine lv_bipush (v := 6) hx hb dL_law_1848 (by decide) ?_
  refine lv_iadd hx hb dL_law_1850 ?_
  refine va_sld hx hb hX hbl hbA hS (lw_ix hi hL (rg_c (v := 6) (lo := 6) (hi := 6) (by decide)) (by decide)) dL_law_1851 ?_
  refine lv_aload_n hx hb dL_law_1852 rfl (lv_at hl 3 rfl) ?_
  refine lv_iload_n hx hb dL_law_1853 rfl (lv_at hl 0 rfl) ?_
  refine lv_bipush (v := 7) hx hb dL_law_1854 (by decide) ?_
  refine lv_iadd hx hb dL_law_1856 ?_
  refine va_sld hx hb hX hbl hbA hS (lw_ix hi hL (rg_c (v := 7) (lo := 7) (hi := 7) (by decide)) (by decide)) dL_law_1857 ?_
  refine lw_cXl (As := [.int (xs ((nI i) + 1).toNatClampNeg), .int (xs ((nI i) + 2).toNatClampNeg), .int (xs ((nI i) + 3).toNatClampNeg), .int (xs ((nI i) + 4).toNatClampNeg), .int (xs ((nI i) + 5).toNatClampNeg), .int (xs ((nI i) + 6).toNatClampNeg), .int (xs ((nI i) + 7).toNatClampNeg)]) (rest := []) ⟨hx, hb, hml, hown, htg⟩ (e_X6_frost l D E G _ a C hT (xs ((nI i) + 1).toNatClampNeg) (xs ((nI i) + 2).toNatClampNeg) (xs ((nI i) + 3).toNatClampNeg) (xs ((nI i) + 4).toNatClampNeg) (xs ((nI i) + 5).toNatClampNeg) (xs ((nI i) + 6).toNatClampNeg) (xs ((nI i) + 7).toNatClampNeg)) (cwV 7 htg (oh_gV q_893 q_894 q_895 q_66 q_896) rfl rfl rfl pdVX6_frost ⟨Nat.le_of_ble_eq_true rfl, Nat.le_of_ble_eq_true rfl⟩) hK hP hD hG hS hA (va_recv hK (oh_pre_P hP) (ci := 6) (q0 := 0) rfl (oh_wg (by decide) (sX_0 hT))) rfl hl.1 rfl (Nat.le_of_ble_eq_true rfl) dL_law_1858 ⟨show cN + 0 ≤ 600000 by omega, show sN + 0 ≤ 7302250 by omega⟩ (fun r_1 C_3 H locs hq_2 hP hD hS => ?_)
  obtain ⟨hT, f_4, hq_2⟩ := hq_2
  have ht1 : gi (C_3 5) 1 = gi (M 0) 7 := by rw [f_4.1 5 rfl (by decide)]; exact ht1
  have ht2 : gi (C_3 0) 2 = 0 ↔ n = 74 := by rw [show gi (C_3 0) 2 = gi (C 0) 2 from congrArg vi (f_4.2 2 (by decide))]; exact ht2
  have ht3 : ga (C_3 32) = ga (M 7) := Eq.trans (congrArg ga (f_4.1 32 rfl (by decide))) ht3
  have htK := htK.x (fr_all f_4 17 23 (by decide)) (f_4.1 2 rfl (by decide))
  have hAX : absX 10 C_3 A0 := absX_g1 15 hAX f_4 hq_2 (by decide)
  have hUX : absTX 1 16 C_3 T0 := absTX_eq hUX (congrArg (fun z => gi z 7) (f_4.1 1 rfl (by decide))) (f_4.1 16 rfl (by decide))
  refine W.widen (k := cN) (n := sN) (Nat.le_refl _) (Nat.le_refl _) ?_
  refine lv_pop2_2 hx hb dL_law_1861 rfl ?_
  refine lv_aload_n hx hb dL_law_1862 rfl (lv_at hl 1 rfl) ?_
  refine lv_aload_n hx hb dL_law_1863 rfl (lv_at hl 3 rfl) ?_
  refine lv_iload_n hx hb dL_law_1864 rfl (lv_at hl 0 rfl) ?_
  refine lv_iconst (v := 1) hx hb dL_law_1865 (by decide) ?_
  refine lv_iadd hx hb dL_law_1866 ?_
  refine va_sld hx hb hX hbl hbA hS (lw_ix hi hL (rg_c (v := 1) (lo := 1) (hi := 1) (by decide)) (by decide)) dL_law_1867 ?_
  refine lv_aload_n hx hb dL_law_1868 rfl (lv_at hl 3 rfl) ?_
  refine lv_iload_n hx hb dL_law_1869 rfl (lv_at hl 0 rfl) ?_
  refine lv_iconst (v := 2) hx hb dL_law_1870 (by decide) ?_
  refine lv_iadd hx hb dL_law_1871 ?_
  refine va_sld hx hb hX hbl hbA hS (lw_ix hi hL (rg_c (v := 2) (lo := 2) (hi := 2) (by decide)) (by decide)) dL_law_1872 ?_
  refine lv_aload_n hx hb dL_law_1873 rfl (lv_at hl 3 rfl) ?_
  refine lv_iload_n hx hb dL_law_1874 rfl (lv_at hl 0 rfl) ?_
  refine lv_iconst (v := 3) hx hb dL_law_1875 (by decide) ?_
  refine lv_iadd hx hb dL_law_1876 ?_
  refine va_sld hx hb hX hbl hbA hS (lw_ix hi hL (rg_c (v := 3) (lo := 3) (hi := 3) (by decide)) (by decide)) dL_law_1877 ?_
  refine lv_aload_n hx hb dL_law_1878 rfl (lv_at hl 3 rfl) ?_
  refine lv_iload_n hx hb dL_law_1879 rfl (lv_at hl 0 rfl) ?_
  refine lv_iconst (v := 4) hx hb dL_law_1880 (by decide) ?_
  refine lv_iadd hx hb dL_law_1881 ?_
  refine va_sld hx hb hX hbl hbA hS (lw_ix hi hL (rg_c (v := 4) (lo := 4) (hi := 4) (by decide)) (by decide)) dL_law_1882 ?_
  refine lv_aload_n hx hb dL_law_1883 rfl (lv_at hl 3 rfl) ?_
  refine lv_iload_n hx hb dL_law_1884 rfl (lv_at hl 0 rfl) ?_
  refine lv_iconst (v := 5) hx hb dL_law_1885 (by decide) ?_
  refine lv_iadd hx hb dL_law_1886 ?_
  refine va_sld hx hb hX hbl hbA hS (lw_ix hi hL (rg_c (v := 5) (lo := 5) (hi := 5) (by decide)) (by decide)) dL_law_1887 ?_
  refine lv_aload_n hx hb dL_law_1888 rfl (lv_at hl 3 rfl) ?_
  refine lv_iload_n hx hb dL_law_1889 rfl (lv_at hl 0 rfl) ?_
  refine lv_bipush (v := 6) hx hb dL_law_1890 (by decide) ?_
  refine lv_iadd hx hb dL_law_1892 ?_
  refine va_sld hx hb hX hbl hbA hS (lw_ix hi hL (rg_c (v := 6) (lo := 6) (hi := 6) (by decide)) (by decide)) dL_law_1893 ?_
  refine lv_aload_n hx hb dL_law_1894 rfl (lv_at hl 3 rfl) ?_
  refine lv_iload_n hx hb dL_law_1895 rfl (lv_at hl 0 rfl) ?_
  refine lv_bipush (v := 7) hx hb dL_law_1896 (by decide) ?_
  refine lv_iadd hx hb dL_law_1898 ?_
  refine va_sld hx hb hX hbl hbA hS (lw_ix hi hL (rg_c (v := 7) (lo := 7) (hi := 7) (by decide)) (by decide)) dL_law_1899 ?_
  refine lw_cMl (As := [.int (xs ((nI i) + 1).toNatClampNeg), .int (xs ((nI i) + 2).toNatClampNeg), .int (xs ((nI i) + 3).toNatClampNeg), .int (xs ((nI i) + 4).toNatClampNeg), .int (xs ((nI i) + 5).toNatClampNeg), .int (xs ((nI i) + 6).toNatClampNeg), .int (xs ((nI i) + 7).toNatClampNeg)]) (rest := []) ⟨hx, hb, hml, hown, htg⟩ (e_X7_frost l D E G _ ma M n hn hTM (xs ((nI i) + 1).toNatClampNeg) (xs ((nI i) + 2).toNatClampNeg) (xs ((nI i) + 3).toNatClampNeg) (xs ((nI i) + 4).toNatClampNeg) (xs ((nI i) + 5).toNatClampNeg) (xs ((nI i) + 6).toNatClampNeg) (xs ((nI i) + 7).toNatClampNeg) hR) (cwV 7 htg (oh_gV q_1405 q_1406 q_1407 q_73 q_1408) rfl rfl rfl pdVX7_frost ⟨Nat.le_of_ble_eq_true rfl, Nat.le_of_ble_eq_true rfl⟩) hK hP hD hG hS hA (va_recv hK (oh_suf_P hP) (ci := 7) (q0 := 0) rfl (oh_wg (by omega) (sM_0 hTM))) rfl hl.1 rfl (Nat.le_of_ble_eq_true rfl) dL_law_1900 ⟨show cN + 0 ≤ 600000 by omega, show sN + 0 ≤ 7302250 by omega⟩ (fun r_5 M_7 H locs hq_6 hP hD hS => ?_)
  have hTM0 := hTM
  obtain ⟨hTM, f_8, hR, hq_6⟩ := hq_6
  have hkp := kept_fr hkp f_8 (by decide)
  have ht1 : gi (C_3 5) 1 = gi (M_7 0) 7 := by rw [show gi (M_7 0) 7 = gi (M 0) 7 from congrArg vi (f_8.2 7 (by decide))]; exact ht1
  have ht3 : ga (C_3 32) = ga (M_7 7) := Eq.trans ht3 (congrArg ga (f_8.1 7 rfl (by decide))).symm
  have htK := htK.m f_8 (by decide)
  have hAM : absM M_7 A0 := absM_13 hAM hTM0 hq_6 f_8 (by decide) (by decide)
  have hUM : absTM M_7 T0 := absTM_eq hUM (f_8.1 14 rfl (by decide)) (congrArg vi (f_8.2 19 (by decide)))
  refine W.widen (k := cN) (n := sN) (Nat.le_refl _) (Nat.le_refl _) ?_
  refine lv_pop2_2 hx hb dL_law_1903 rfl ?_
  refine lv_goto (tgt := 2045) hx hb dL_law_1904 (by decide) ?_
  exact kk ma C_3 M_7 n (cN) (sN) H locs ls hT hTM hR hkp ht1 ht2 ht3 ⟨_, _, hAX, hAM, hok, hUX, hUM⟩ htK (by omega) (by omega) hP hD hS hl

set_option maxHeartbeats 4000000 in
set_option maxRecDepth 100000 in
/-- the law at a call of begin -/
theorem lc_begin {p : Program} {e : Env} {s : State} {m : MethodId} {below : List Frame} {meth : Method} {c : Code} (l : Launch) {b L : Nat} {xs : Nat → Int32} (C0 : lw_At p s m meth c b L xs) (hL : L ≤ 4096) {D : va_G} {E : Nat → ClassId} {G : Nat → Nat} {A : Nat → Prop} (hAe : A = fun q => s.heap.size ≤ q) (hK : va_K D vwCl (oh_ty E) s) (hG : oh_G G A s) {a : Nat → Nat} {i : Nat} (hi : i + 8 ≤ L) {ma : Nat → Nat} {C M : Nat → va_E} {n cN sN : Nat} (hT : TyX a E C) (hTM : TyM ma E M) (hR : RelM M) (hkp : KEPT E n ma M) (ht1 : gi (C 5) 1 = gi (M 0) 7) (ht2 : gi (C 0) 2 = 0 ↔ n = 74) (ht3 : ga (C 32) = ga (M 7)) (htA : ∃ (A0 : LA) (T0 : TP), absX 10 C A0 ∧ absM M A0 ∧ okA A0 ∧ absTX 1 16 C T0 ∧ absTM M T0) (htK : TIEK n C M) (hcN : cN ≤ 35 + n) (hsN : sN ≤ 1477 + 16 * n) {H : Heap} {locs : List Loc} (hP : va_P D vwCl (oh_W 35 a C ++ oh_W n ma M) H) (hD : va_D A (oh_W 35 a C ++ oh_W n ma M)) (hS : va_S A s.heap H locs) {ls : Array Slot} (hl : lv_has ls 4 [(3, .int (nI i)), (2, .ref (ma 0)), (1, .ref (a 0)), (0, .ref b)]) (kk : ∀ (ma : Nat → Nat) (C M : Nat → va_E) (n cN sN : Nat) (H : Heap) (locs : List Loc) (ls : Array Slot), TyX a E C → TyM ma E M → RelM M → KEPT E n ma M → gi (C 5) 1 = gi (M 0) 7 → (gi (C 0) 2 = 0 ↔ n = 74) → ga (C 32) = ga (M 7) → (∃ (A0 : LA) (T0 : TP), absX 10 C A0 ∧ absM M A0 ∧ okA A0 ∧ absTX 1 16 C T0 ∧ absTM M T0) → TIEK n C M → cN ≤ 35 + n → sN ≤ 1477 + 16 * n → va_P D vwCl (oh_W 35 a C ++ oh_W n ma M) H → va_D A (oh_W 35 a C ++ oh_W n ma M) → va_S A s.heap H locs → lv_has ls 4 [(3, .int (nI i)), (2, .ref (ma 0)), (1, .ref (a 0)), (0, .ref b)] → W p l e room_1 s m #[Value.ref b] below meth c H locs cN sN (lw_Z below #[Value.ref b] s) (F0 m 2045 ls [])) : W p l e room_1 s m #[Value.ref b] below meth c H locs cN sN (lw_Z below #[Value.ref b] s) (F0 m 1907 ls []) := by
  obtain ⟨hx, hb, hr, hml, hown, hts, hX, hbl, hlocks, hgv⟩ := id C0
  have hown : s.vm.findClass RL = some m.cls := hown
  have htg : ∀ w ∈ oh_t, w.before _ s = true := fun w h => hts w (List.mem_filter.mp h).1
  have hA : ∀ q, s.heap.size ≤ q → A q := fun q h => by rw [hAe]; exact h
  have hbA : ¬ A b := by rw [hAe]; exact Nat.not_le.mpr hbl
  have hn := hkp.le.1
  have hn8 := hkp.le.2
  have ht10 := ht1
  have ht20 := ht2
  have ht30 := ht3
  obtain ⟨A0, T0, hAX, hAM, hok, hUX, hUM⟩ := htA
  have hAX0 := hAX
  have hAM0 := hAM
  have htK0 := htK
  have hUX0 := hUX
  refine lv_aload_n hx hb dL_law_1907 rfl (lv_at hl 2 rfl) ?_
  refine lv_aload_n hx hb dL_law_1908 rfl (lv_at hl 3 rfl) ?_
  refine lv_iload_n hx hb dL_law_1909 rfl (lv_at hl 0 rfl) ?_
  refine lv_iconst (v := 1) hx hb dL_law_1910 (by decide) ?_
  refine lv_iadd hx hb dL_law_1911 ?_
  refine va_sld hx hb hX hbl hbA hS (lw_ix hi hL (rg_c (v := 1) (lo := 1) (hi := 1) (by decide)) (by decide)) dL_law_1912 ?_
  refine lv_aload_n hx hb dL_law_1913 rfl (lv_at hl 3 rfl) ?_
  refine lv_iload_n hx hb dL_law_1914 rfl (lv_at hl 0 rfl) ?_
  refine lv_iconst (v := 2) hx hb dL_law_1915 (by decide) ?_
  refine lv_iadd hx hb dL_law_1916 ?_
  refine va_sld hx hb hX hbl hbA hS (lw_ix hi hL (rg_c (v := 2) (lo := 2) (hi := 2) (by decide)) (by decide)) dL_law_1917 ?_
  refine lv_aload_n hx hb dL_law_1918 rfl (lv_at hl 3 rfl) ?_
  refine lv_iload_n hx hb dL_law_1919 rfl (lv_at hl 0 rfl) ?_
  refine lv_iconst (v := 3) hx hb dL_law_1920 (by decide) ?_
  refine lv_iadd hx hb dL_law_1921 ?_
  refine va_sld hx hb hX hbl hbA hS (lw_ix hi hL (rg_c (v := 3) (lo := 3) (hi := 3) (by decide)) (by decide)) dL_law_1922 ?_
  refine lv_aload_n hx hb dL_law_1923 rfl (lv_at hl 3 rfl) ?_
  refine lv_iload_n hx hb dL_law_1924 rfl (lv_at hl 0 rfl) ?_
  refine lv_iconst (v := 4) hx hb dL_law_1925 (by decide) ?_
  refine lv_iadd hx hb dL_law_1926 ?_
  refine va_sld hx hb hX hbl hbA hS (lw_ix hi hL (rg_c (v := 4) (lo := 4) (hi := 4) (by decide)) (by decide)) dL_law_1927 ?_
  refine lw_cX (As := [.int (xs ((nI i) + 1).toNatClampNeg), .int (xs ((nI i) + 2).toNatClampNeg), .int (xs ((nI i) + 3).toNatClampNeg), .int (xs ((nI i) + 4).toNatClampNeg)]) (rest := []) ⟨hx, hb, hml, hown, htg⟩ (e2_X6_begin l D E G _ a C hT (xs ((nI i) + 1).toNatClampNeg) (xs ((nI i) + 2).toNatClampNeg) (xs ((nI i) + 3).toNatClampNeg) (xs ((nI i) + 4).toNatClampNeg)) (cwV 4 htg (oh_gV q_904 q_905 q_906 q_66 q_907) rfl rfl rfl pdVX6_begin ⟨Nat.le_of_ble_eq_true rfl, Nat.le_of_ble_eq_true rfl⟩) hK hP hD hG hS hA (va_recv hK (oh_pre_P hP) (ci := 6) (q0 := 0) rfl (oh_wg (by decide) (sX_0 hT))) rfl hl.1 rfl (Nat.le_of_ble_eq_true rfl) dL_law_1928 ⟨show cN + 0 ≤ 600000 by omega, show sN + 0 ≤ 7302250 by omega⟩ (fun r_1 C_3 H locs hq_2 hP hD hS => ?_)
  obtain ⟨hT, f_4, hq_2⟩ := hq_2
  have ht1 : gi (C_3 5) 1 = gi (M 0) 7 := by rw [f_4.1 5 rfl (by decide)]; exact ht1
  have ht2 : gi (C_3 0) 2 = 0 ↔ n = 74 := by rw [show gi (C_3 0) 2 = gi (C 0) 2 from congrArg vi (f_4.2 2 (by decide))]; exact ht2
  have ht3 : ga (C_3 32) = ga (M 7) := Eq.trans (congrArg ga (f_4.1 32 rfl (by decide))) ht3
  have htK := htK.x (fr_all f_4 17 23 (by decide)) (f_4.1 2 rfl (by decide))
  have hX_5 := hq_2.1 A0 hAX0
  have hAX : absX 10 C_3 A0 := absX_eq hAX (fun k k1 k2 => fr_all f_4 10 15 (by decide) k k1 (by omega))
  have hUX := hq_2.2 A0 T0 hAX0 hUX
  refine W.widen (k := cN) (n := sN) (Nat.le_refl _) (Nat.le_refl _) ?_
  refine lv_pop hx hb dL_law_1931 rfl ?_
  refine lv_aload_n hx hb dL_law_1932 rfl (lv_at hl 1 rfl) ?_
  refine lv_aload_n hx hb dL_law_1933 rfl (lv_at hl 3 rfl) ?_
  refine lv_iload_n hx hb dL_law_1934 rfl (lv_at hl 0 rfl) ?_
  refine lv_iconst (v := 1) hx hb dL_law_1935 (by decide) ?_
  refine lv_iadd hx hb dL_law_1936 ?_
  refine va_sld hx hb hX hbl hbA hS (lw_ix hi hL (rg_c (v := 1) (lo := 1) (hi := 1) (by decide)) (by decide)) dL_law_1937 ?_
  refine lv_aload_n hx hb dL_law_1938 rfl (lv_at hl 3 rfl) ?_
  refine lv_iload_n hx hb dL_law_1939 rfl (lv_at hl 0 rfl) ?_
  refine lv_iconst (v := 2) hx hb dL_law_1940 (by decide) ?_
  refine lv_iadd hx hb dL_law_1941 ?_
  refine va_sld hx hb hX hbl hbA hS (lw_ix hi hL (rg_c (v := 2) (lo := 2) (hi := 2) (by decide)) (by decide)) dL_law_1942 ?_
  refine lv_aload_n hx hb dL_law_1943 rfl (lv_at hl 3 rfl) ?_
  refine lv_iload_n hx hb dL_law_1944 rfl (lv_at hl 0 rfl) ?_
  refine lv_iconst (v := 3) hx hb dL_law_1945 (by decide) ?_
  refine lv_iadd hx hb dL_law_1946 ?_
  refine va_sld hx hb hX hbl hbA hS (lw_ix hi hL (rg_c (v := 3) (lo := 3) (hi := 3) (by decide)) (by decide)) dL_law_1947 ?_
  refine lv_aload_n hx hb dL_law_1948 rfl (lv_at hl 3 rfl) ?_
  refine lv_iload_n hx hb dL_law_1949 rfl (lv_at hl 0 rfl) ?_
  refine lv_iconst (v := 4) hx hb dL_law_1950 (by decide) ?_
  refine lv_iadd hx hb dL_law_1951 ?_
  refine va_sld hx hb hX hbl hbA hS (lw_ix hi hL (rg_c (v := 4) (lo := 4) (hi := 4) (by decide)) (by decide)) dL_law_1952 ?_
  refine lw_cM (As := [.int (xs ((nI i) + 1).toNatClampNeg), .int (xs ((nI i) + 2).toNatClampNeg), .int (xs ((nI i) + 3).toNatClampNeg), .int (xs ((nI i) + 4).toNatClampNeg)]) (rest := []) ⟨hx, hb, hml, hown, htg⟩ (e2_X7_begin l D E G _ ma M n hn hTM (xs ((nI i) + 1).toNatClampNeg) (xs ((nI i) + 2).toNatClampNeg) (xs ((nI i) + 3).toNatClampNeg) (xs ((nI i) + 4).toNatClampNeg) hR) (cwV 4 htg (oh_gV q_1409 q_1410 q_1411 q_73 q_1412) rfl rfl rfl pdVX7_begin ⟨Nat.le_of_ble_eq_true rfl, Nat.le_of_ble_eq_true rfl⟩) hK hP hD hG hS hA (va_recv hK (oh_suf_P hP) (ci := 7) (q0 := 0) rfl (oh_wg (by omega) (sM_0 hTM))) rfl hl.1 rfl (Nat.le_of_ble_eq_true rfl) dL_law_1953 ⟨show cN + 0 ≤ 600000 by omega, show sN + 0 ≤ 7302250 by omega⟩ (fun r_6 M_8 H locs hq_7 hP hD hS => ?_)
  have hTM0 := hTM
  obtain ⟨hTM, f_9, hR, hq_7⟩ := hq_7
  have hkp := kept_fr hkp f_9 (by decide)
  have ht1 : gi (C_3 5) 1 = gi (M_8 0) 7 := by rw [show gi (M_8 0) 7 = gi (M 0) 7 from congrArg vi (f_9.2 7 (by decide))]; exact ht1
  have ht3 : ga (C_3 32) = ga (M_8 7) := Eq.trans ht3 (congrArg ga (f_9.1 7 rfl (by decide))).symm
  have htK := htK.m f_9 (by decide)
  have hM_10 := hq_7.1 A0 hAM0
  have hAM : absM M_8 A0 := absM_fr hAM hTM0 f_9 (by decide) (by decide) (by decide)
  have hUM := hq_7.2 A0 T0 hAM0 hUM
  refine W.widen (k := cN) (n := sN) (Nat.le_refl _) (Nat.le_refl _) ?_
  refine lv_pop hx hb dL_law_1956 rfl ?_
  refine lv_goto (tgt := 2045) hx hb dL_law_1957 (by decide) ?_
  exact kk ma C_3 M_8 n (cN) (sN) H locs ls hT hTM hR hkp ht1 ht2 ht3 ⟨_, _, hAX, hAM, hok, hUX, hUM⟩ htK (by omega) (by omega) hP hD hS hl

set_option maxHeartbeats 4000000 in
set_option maxRecDepth 100000 in
/-- the law at a call of step -/
theorem lc_step {p : Program} {e : Env} {s : State} {m : MethodId} {below : List Frame} {meth : Method} {c : Code} (l : Launch) {b L : Nat} {xs : Nat → Int32} (C0 : lw_At p s m meth c b L xs) (hL : L ≤ 4096) {D : va_G} {E : Nat → ClassId} {G : Nat → Nat} {A : Nat → Prop} (hAe : A = fun q => s.heap.size ≤ q) (hK : va_K D vwCl (oh_ty E) s) (hG : oh_G G A s) {a : Nat → Nat} {i : Nat} (hi : i + 8 ≤ L) {ma : Nat → Nat} {C M : Nat → va_E} {n cN sN : Nat} (hT : TyX a E C) (hTM : TyM ma E M) (hR : RelM M) (hkp : KEPT E n ma M) (ht1 : gi (C 5) 1 = gi (M 0) 7) (ht2 : gi (C 0) 2 = 0 ↔ n = 74) (ht3 : ga (C 32) = ga (M 7)) (htA : ∃ (A0 : LA) (T0 : TP), absX 10 C A0 ∧ absM M A0 ∧ okA A0 ∧ absTX 1 16 C T0 ∧ absTM M T0) (htK : TIEK n C M) (hcN : cN ≤ 35 + n) (hsN : sN ≤ 1477 + 16 * n) {H : Heap} {locs : List Loc} (hP : va_P D vwCl (oh_W 35 a C ++ oh_W n ma M) H) (hD : va_D A (oh_W 35 a C ++ oh_W n ma M)) (hS : va_S A s.heap H locs) {ls : Array Slot} (hl : lv_has ls 4 [(3, .int (nI i)), (2, .ref (ma 0)), (1, .ref (a 0)), (0, .ref b)]) (kk : ∀ (ma : Nat → Nat) (C M : Nat → va_E) (n cN sN : Nat) (H : Heap) (locs : List Loc) (ls : Array Slot), TyX a E C → TyM ma E M → RelM M → KEPT E n ma M → gi (C 5) 1 = gi (M 0) 7 → (gi (C 0) 2 = 0 ↔ n = 74) → ga (C 32) = ga (M 7) → (∃ (A0 : LA) (T0 : TP), absX 10 C A0 ∧ absM M A0 ∧ okA A0 ∧ absTX 1 16 C T0 ∧ absTM M T0) → TIEK n C M → cN ≤ 35 + n → sN ≤ 1477 + 16 * n → va_P D vwCl (oh_W 35 a C ++ oh_W n ma M) H → va_D A (oh_W 35 a C ++ oh_W n ma M) → va_S A s.heap H locs → lv_has ls 4 [(3, .int (nI i)), (2, .ref (ma 0)), (1, .ref (a 0)), (0, .ref b)] → W p l e room_1 s m #[Value.ref b] below meth c H locs cN sN (lw_Z below #[Value.ref b] s) (F0 m 2045 ls [])) : W p l e room_1 s m #[Value.ref b] below meth c H locs cN sN (lw_Z below #[Value.ref b] s) (F0 m 1960 ls []) := by
  obtain ⟨hx, hb, hr, hml, hown, hts, hX, hbl, hlocks, hgv⟩ := id C0
  have hown : s.vm.findClass RL = some m.cls := hown
  have htg : ∀ w ∈ oh_t, w.before _ s = true := fun w h => hts w (List.mem_filter.mp h).1
  have hA : ∀ q, s.heap.size ≤ q → A q := fun q h => by rw [hAe]; exact h
  have hbA : ¬ A b := by rw [hAe]; exact Nat.not_le.mpr hbl
  have hn := hkp.le.1
  have hn8 := hkp.le.2
  have ht10 := ht1
  have ht20 := ht2
  have ht30 := ht3
  obtain ⟨A0, T0, hAX, hAM, hok, hUX, hUM⟩ := htA
  have hAX0 := hAX
  have hAM0 := hAM
  have htK0 := htK
  have hUX0 := hUX
  refine lv_aload_n hx hb dL_law_1960 rfl (lv_at hl 2 rfl) ?_
  refine lw_cX (As := []) (rest := []) ⟨hx, hb, hml, hown, htg⟩ (e2_X6_step l D E G _ a C hT) (cwV 0 htg (oh_gV q_912 q_913 q_914 q_66 q_915) rfl rfl rfl pdVX6_step ⟨Nat.le_of_ble_eq_true rfl, Nat.le_of_ble_eq_true rfl⟩) hK hP hD hG hS hA (va_recv hK (oh_pre_P hP) (ci := 6) (q0 := 0) rfl (oh_wg (by decide) (sX_0 hT))) rfl hl.1 rfl (Nat.le_of_ble_eq_true rfl) dL_law_1961 ⟨show cN + 0 ≤ 600000 by omega, show sN + 0 ≤ 7302250 by omega⟩ (fun r_1 C_3 H locs hq_2 hP hD hS => ?_)
  obtain ⟨hT, f_4, hq_2⟩ := hq_2
  have ht1 : gi (C_3 5) 1 = gi (M 0) 7 := by rw [f_4.1 5 rfl (by decide)]; exact ht1
  have ht2 : gi (C_3 0) 2 = 0 ↔ n = 74 := by rw [show gi (C_3 0) 2 = gi (C 0) 2 from congrArg vi (f_4.2 2 (by decide))]; exact ht2
  have ht3 : ga (C_3 32) = ga (M 7) := Eq.trans (congrArg ga (f_4.1 32 rfl (by decide))) ht3
  have htK := htK.x (fr_all f_4 17 23 (by decide)) (f_4.1 2 rfl (by decide))
  obtain ⟨B1, U1, hs_5, hAX, hUX⟩ := hq_2 A0 T0 hAX hok hUX (relT hR hAM hUM)
  refine W.widen (k := cN) (n := sN) (Nat.le_refl _) (Nat.le_refl _) ?_
  refine lv_pop hx hb dL_law_1964 rfl ?_
  refine lv_aload_n hx hb dL_law_1965 rfl (lv_at hl 1 rfl) ?_
  refine lw_cM (As := []) (rest := []) ⟨hx, hb, hml, hown, htg⟩ (e2_X7_step l D E G _ ma M n hn hTM hR) (cwV 0 htg (oh_gV q_1413 q_1414 q_1415 q_73 q_1416) rfl rfl rfl pdVX7_step ⟨Nat.le_of_ble_eq_true rfl, Nat.le_of_ble_eq_true rfl⟩) hK hP hD hG hS hA (va_recv hK (oh_suf_P hP) (ci := 7) (q0 := 0) rfl (oh_wg (by omega) (sM_0 hTM))) rfl hl.1 rfl (Nat.le_of_ble_eq_true rfl) dL_law_1966 ⟨show cN + 0 ≤ 600000 by omega, show sN + 0 ≤ 7302250 by omega⟩ (fun r_6 M_8 H locs hq_7 hP hD hS => ?_)
  have hTM0 := hTM
  obtain ⟨hTM, f_9, hR, hq_7⟩ := hq_7
  have hkp := kept_fr hkp f_9 (by decide)
  have ht1 : gi (C_3 5) 1 = gi (M_8 0) 7 := by rw [show gi (M_8 0) 7 = gi (M 0) 7 from congrArg vi (f_9.2 7 (by decide))]; exact ht1
  have ht3 : ga (C_3 32) = ga (M_8 7) := Eq.trans ht3 (congrArg ga (f_9.1 7 rfl (by decide))).symm
  have htK := htK.m f_9 (by decide)
  obtain ⟨B2, U2, hs_10, hAM, hUM⟩ := hq_7 A0 T0 hAM hok hUM
  obtain ⟨hB_11, hBB, hUU⟩ := stpA_u hok hs_5 hs_10
  subst hBB hUU
  have hok := ok_step hok hs_5
  refine W.widen (k := cN) (n := sN) (Nat.le_refl _) (Nat.le_refl _) ?_
  refine lv_pop hx hb dL_law_1969 rfl ?_
  refine lv_goto (tgt := 2045) hx hb dL_law_1970 (by decide) ?_
  exact kk ma C_3 M_8 n (cN) (sN) H locs ls hT hTM hR hkp ht1 ht2 ht3 ⟨_, _, hAX, hAM, hok, hUX, hUM⟩ htK (by omega) (by omega) hP hD hS hl

set_option maxHeartbeats 4000000 in
set_option maxRecDepth 100000 in
/-- the law at a call of under -/
theorem lc_under {p : Program} {e : Env} {s : State} {m : MethodId} {below : List Frame} {meth : Method} {c : Code} (l : Launch) {b L : Nat} {xs : Nat → Int32} (C0 : lw_At p s m meth c b L xs) (hL : L ≤ 4096) {D : va_G} {E : Nat → ClassId} {G : Nat → Nat} {A : Nat → Prop} (hAe : A = fun q => s.heap.size ≤ q) (hK : va_K D vwCl (oh_ty E) s) (hG : oh_G G A s) {a : Nat → Nat} {i : Nat} (hi : i + 8 ≤ L) {ma : Nat → Nat} {C M : Nat → va_E} {n cN sN : Nat} (hT : TyX a E C) (hTM : TyM ma E M) (hR : RelM M) (hkp : KEPT E n ma M) (ht1 : gi (C 5) 1 = gi (M 0) 7) (ht2 : gi (C 0) 2 = 0 ↔ n = 74) (ht3 : ga (C 32) = ga (M 7)) (htA : ∃ (A0 : LA) (T0 : TP), absX 10 C A0 ∧ absM M A0 ∧ okA A0 ∧ absTX 1 16 C T0 ∧ absTM M T0) (htK : TIEK n C M) (hcN : cN ≤ 35 + n) (hsN : sN ≤ 1477 + 16 * n) {H : Heap} {locs : List Loc} (hP : va_P D vwCl (oh_W 35 a C ++ oh_W n ma M) H) (hD : va_D A (oh_W 35 a C ++ oh_W n ma M)) (hS : va_S A s.heap H locs) {ls : Array Slot} (hl : lv_has ls 4 [(3, .int (nI i)), (2, .ref (ma 0)), (1, .ref (a 0)), (0, .ref b)]) (kk : ∀ (ma : Nat → Nat) (C M : Nat → va_E) (n cN sN : Nat) (H : Heap) (locs : List Loc) (ls : Array Slot), TyX a E C → TyM ma E M → RelM M → KEPT E n ma M → gi (C 5) 1 = gi (M 0) 7 → (gi (C 0) 2 = 0 ↔ n = 74) → ga (C 32) = ga (M 7) → (∃ (A0 : LA) (T0 : TP), absX 10 C A0 ∧ absM M A0 ∧ okA A0 ∧ absTX 1 16 C T0 ∧ absTM M T0) → TIEK n C M → cN ≤ 35 + n → sN ≤ 1477 + 16 * n → va_P D vwCl (oh_W 35 a C ++ oh_W n ma M) H → va_D A (oh_W 35 a C ++ oh_W n ma M) → va_S A s.heap H locs → lv_has ls 4 [(3, .int (nI i)), (2, .ref (ma 0)), (1, .ref (a 0)), (0, .ref b)] → W p l e room_1 s m #[Value.ref b] below meth c H locs cN sN (lw_Z below #[Value.ref b] s) (F0 m 2045 ls [])) : W p l e room_1 s m #[Value.ref b] below meth c H locs cN sN (lw_Z below #[Value.ref b] s) (F0 m 1973 ls []) := by
  obtain ⟨hx, hb, hr, hml, hown, hts, hX, hbl, hlocks, hgv⟩ := id C0
  have hown : s.vm.findClass RL = some m.cls := hown
  have htg : ∀ w ∈ oh_t, w.before _ s = true := fun w h => hts w (List.mem_filter.mp h).1
  have hA : ∀ q, s.heap.size ≤ q → A q := fun q h => by rw [hAe]; exact h
  have hbA : ¬ A b := by rw [hAe]; exact Nat.not_le.mpr hbl
  have hn := hkp.le.1
  have hn8 := hkp.le.2
  have ht10 := ht1
  have ht20 := ht2
  have ht30 := ht3
  obtain ⟨A0, T0, hAX, hAM, hok, hUX, hUM⟩ := htA
  have hAX0 := hAX
  have hAM0 := hAM
  have htK0 := htK
  have hUX0 := hUX
  refine lv_aload_n hx hb dL_law_1973 rfl (lv_at hl 2 rfl) ?_
  refine lv_aload_n hx hb dL_law_1974 rfl (lv_at hl 3 rfl) ?_
  refine lv_iload_n hx hb dL_law_1975 rfl (lv_at hl 0 rfl) ?_
  refine lv_iconst (v := 1) hx hb dL_law_1976 (by decide) ?_
  refine lv_iadd hx hb dL_law_1977 ?_
  refine va_sld hx hb hX hbl hbA hS (lw_ix hi hL (rg_c (v := 1) (lo := 1) (hi := 1) (by decide)) (by decide)) dL_law_1978 ?_
  refine lw_cX (As := [.int (xs ((nI i) + 1).toNatClampNeg)]) (rest := []) ⟨hx, hb, hml, hown, htg⟩ (e_X6_under l D E G _ a C hT (xs ((nI i) + 1).toNatClampNeg)) (cwV 1 htg (oh_gV q_929 q_930 q_931 q_66 q_932) rfl rfl rfl pdVX6_under ⟨Nat.le_of_ble_eq_true rfl, Nat.le_of_ble_eq_true rfl⟩) hK hP hD hG hS hA (va_recv hK (oh_pre_P hP) (ci := 6) (q0 := 0) rfl (oh_wg (by decide) (sX_0 hT))) rfl hl.1 rfl (Nat.le_of_ble_eq_true rfl) dL_law_1979 ⟨show cN + 0 ≤ 600000 by omega, show sN + 0 ≤ 7302250 by omega⟩ (fun r_1 C_3 H locs hq_2 hP hD hS => ?_)
  obtain ⟨hT, f_4, hq_2⟩ := hq_2
  have ht1 : gi (C_3 5) 1 = gi (M 0) 7 := by rw [f_4.1 5 rfl (by decide)]; exact ht1
  have ht2 : gi (C_3 0) 2 = 0 ↔ n = 74 := by rw [show gi (C_3 0) 2 = gi (C 0) 2 from congrArg vi (f_4.2 2 (by decide))]; exact ht2
  have ht3 : ga (C_3 32) = ga (M 7) := Eq.trans (congrArg ga (f_4.1 32 rfl (by decide))) ht3
  have htK := htK.x (fr_all f_4 17 23 (by decide)) (f_4.1 2 rfl (by decide))
  have hX_5 := hq_2 T0 hUX
  have hAX : absX 10 C_3 A0 := absX_eq hAX (fun k k1 k2 => fr_all f_4 10 15 (by decide) k k1 (by omega))
  have hUX : absTX 1 16 C_3 T0 := absTX_eq hUX (congrArg (fun z => gi z 7) (f_4.1 1 rfl (by decide))) (f_4.1 16 rfl (by decide))
  refine W.widen (k := cN) (n := sN) (Nat.le_refl _) (Nat.le_refl _) ?_
  refine lv_pop hx hb dL_law_1982 rfl ?_
  refine lv_aload_n hx hb dL_law_1983 rfl (lv_at hl 1 rfl) ?_
  refine lv_aload_n hx hb dL_law_1984 rfl (lv_at hl 3 rfl) ?_
  refine lv_iload_n hx hb dL_law_1985 rfl (lv_at hl 0 rfl) ?_
  refine lv_iconst (v := 1) hx hb dL_law_1986 (by decide) ?_
  refine lv_iadd hx hb dL_law_1987 ?_
  refine va_sld hx hb hX hbl hbA hS (lw_ix hi hL (rg_c (v := 1) (lo := 1) (hi := 1) (by decide)) (by decide)) dL_law_1988 ?_
  refine lw_cM (As := [.int (xs ((nI i) + 1).toNatClampNeg)]) (rest := []) ⟨hx, hb, hml, hown, htg⟩ (e_X7_under l D E G _ ma M n hn hTM (xs ((nI i) + 1).toNatClampNeg) hR) (cwV 1 htg (oh_gV q_1417 q_1418 q_1419 q_73 q_1420) rfl rfl rfl pdVX7_under ⟨Nat.le_of_ble_eq_true rfl, Nat.le_of_ble_eq_true rfl⟩) hK hP hD hG hS hA (va_recv hK (oh_suf_P hP) (ci := 7) (q0 := 0) rfl (oh_wg (by omega) (sM_0 hTM))) rfl hl.1 rfl (Nat.le_of_ble_eq_true rfl) dL_law_1989 ⟨show cN + 0 ≤ 600000 by omega, show sN + 0 ≤ 7302250 by omega⟩ (fun r_6 M_8 H locs hq_7 hP hD hS => ?_)
  have hTM0 := hTM
  obtain ⟨hTM, f_9, hR, hq_7⟩ := hq_7
  have hkp := kept_fr hkp f_9 (by decide)
  have ht1 : gi (C_3 5) 1 = gi (M_8 0) 7 := by rw [show gi (M_8 0) 7 = gi (M 0) 7 from congrArg vi (f_9.2 7 (by decide))]; exact ht1
  have ht3 : ga (C_3 32) = ga (M_8 7) := Eq.trans ht3 (congrArg ga (f_9.1 7 rfl (by decide))).symm
  have htK := htK.m f_9 (by decide)
  have hM_10 := hq_7 T0 hUM
  have hAM : absM M_8 A0 := absM_fr hAM hTM0 f_9 (by decide) (by decide) (by decide)
  have hUM : absTM M_8 T0 := absTM_eq hUM (f_9.1 14 rfl (by decide)) (congrArg vi (f_9.2 19 (by decide)))
  refine W.widen (k := cN) (n := sN) (Nat.le_refl _) (Nat.le_refl _) ?_
  refine lv_pop hx hb dL_law_1992 rfl ?_
  refine lv_goto (tgt := 2045) hx hb dL_law_1993 (by decide) ?_
  exact kk ma C_3 M_8 n (cN) (sN) H locs ls hT hTM hR hkp ht1 ht2 ht3 ⟨_, _, hAX, hAM, hok, hUX, hUM⟩ htK (by omega) (by omega) hP hD hS hl

set_option maxHeartbeats 4000000 in
set_option maxRecDepth 100000 in
/-- the law at a call of image -/
theorem lc_image {p : Program} {e : Env} {s : State} {m : MethodId} {below : List Frame} {meth : Method} {c : Code} (l : Launch) {b L : Nat} {xs : Nat → Int32} (C0 : lw_At p s m meth c b L xs) (hL : L ≤ 4096) {D : va_G} {E : Nat → ClassId} {G : Nat → Nat} {A : Nat → Prop} (hAe : A = fun q => s.heap.size ≤ q) (hK : va_K D vwCl (oh_ty E) s) (hG : oh_G G A s) {a : Nat → Nat} {i : Nat} (hi : i + 8 ≤ L) {ma : Nat → Nat} {C M : Nat → va_E} {n cN sN : Nat} (hT : TyX a E C) (hTM : TyM ma E M) (hR : RelM M) (hkp : KEPT E n ma M) (ht1 : gi (C 5) 1 = gi (M 0) 7) (ht2 : gi (C 0) 2 = 0 ↔ n = 74) (ht3 : ga (C 32) = ga (M 7)) (htA : ∃ (A0 : LA) (T0 : TP), absX 10 C A0 ∧ absM M A0 ∧ okA A0 ∧ absTX 1 16 C T0 ∧ absTM M T0) (htK : TIEK n C M) (hcN : cN ≤ 35 + n) (hsN : sN ≤ 1477 + 16 * n) {H : Heap} {locs : List Loc} (hP : va_P D vwCl (oh_W 35 a C ++ oh_W n ma M) H) (hD : va_D A (oh_W 35 a C ++ oh_W n ma M)) (hS : va_S A s.heap H locs) {ls : Array Slot} (hl : lv_has ls 4 [(3, .int (nI i)), (2, .ref (ma 0)), (1, .ref (a 0)), (0, .ref b)]) (kk : ∀ (ma : Nat → Nat) (C M : Nat → va_E) (n cN sN : Nat) (H : Heap) (locs : List Loc) (ls : Array Slot), TyX a E C → TyM ma E M → RelM M → KEPT E n ma M → gi (C 5) 1 = gi (M 0) 7 → (gi (C 0) 2 = 0 ↔ n = 74) → ga (C 32) = ga (M 7) → (∃ (A0 : LA) (T0 : TP), absX 10 C A0 ∧ absM M A0 ∧ okA A0 ∧ absTX 1 16 C T0 ∧ absTM M T0) → TIEK n C M → cN ≤ 35 + n → sN ≤ 1477 + 16 * n → va_P D vwCl (oh_W 35 a C ++ oh_W n ma M) H → va_D A (oh_W 35 a C ++ oh_W n ma M) → va_S A s.heap H locs → lv_has ls 4 [(3, .int (nI i)), (2, .ref (ma 0)), (1, .ref (a 0)), (0, .ref b)] → W p l e room_1 s m #[Value.ref b] below meth c H locs cN sN (lw_Z below #[Value.ref b] s) (F0 m 2045 ls [])) : W p l e room_1 s m #[Value.ref b] below meth c H locs cN sN (lw_Z below #[Value.ref b] s) (F0 m 1996 ls []) := by
  obtain ⟨hx, hb, hr, hml, hown, hts, hX, hbl, hlocks, hgv⟩ := id C0
  have hown : s.vm.findClass RL = some m.cls := hown
  have htg : ∀ w ∈ oh_t, w.before _ s = true := fun w h => hts w (List.mem_filter.mp h).1
  have hA : ∀ q, s.heap.size ≤ q → A q := fun q h => by rw [hAe]; exact h
  have hbA : ¬ A b := by rw [hAe]; exact Nat.not_le.mpr hbl
  have hn := hkp.le.1
  have hn8 := hkp.le.2
  have ht10 := ht1
  have ht20 := ht2
  have ht30 := ht3
  obtain ⟨A0, T0, hAX, hAM, hok, hUX, hUM⟩ := htA
  have hAX0 := hAX
  have hAM0 := hAM
  have htK0 := htK
  have hUX0 := hUX
  refine lv_aload_n hx hb dL_law_1996 rfl (lv_at hl 2 rfl) ?_
  refine lw_cX (As := []) (rest := []) ⟨hx, hb, hml, hown, htg⟩ (e2_X6_image l D E G _ a C hT) (cwV 0 htg (oh_gV q_933 q_934 q_935 q_66 q_936) rfl rfl rfl pdVX6_image ⟨Nat.le_of_ble_eq_true rfl, Nat.le_of_ble_eq_true rfl⟩) hK hP hD hG hS hA (va_recv hK (oh_pre_P hP) (ci := 6) (q0 := 0) rfl (oh_wg (by decide) (sX_0 hT))) rfl hl.1 rfl (Nat.le_of_ble_eq_true rfl) dL_law_1997 ⟨show cN + 0 ≤ 600000 by omega, show sN + 0 ≤ 7302250 by omega⟩ (fun r_1 C_3 H locs hq_2 hP hD hS => ?_)
  obtain ⟨hT, f_4, hq_2⟩ := hq_2
  have ht1 : gi (C_3 5) 1 = gi (M 0) 7 := by rw [f_4.1 5 rfl (by decide)]; exact ht1
  have ht3 : ga (C_3 32) = ga (M 7) := Eq.trans (congrArg ga (f_4.1 32 rfl (by decide))) ht3
  have hAX : absX 10 C_3 A0 := absX_eq hAX (fun k k1 k2 => fr_all f_4 10 15 (by decide) k k1 (by omega))
  have hUX : absTX 1 16 C_3 T0 := absTX_eq hUX (congrArg (fun z => gi z 7) (f_4.1 1 rfl (by decide))) (f_4.1 16 rfl (by decide))
  refine W.widen (k := cN) (n := sN) (Nat.le_refl _) (Nat.le_refl _) ?_
  refine lv_pop hx hb dL_law_2000 rfl ?_
  refine lv_aload_n hx hb dL_law_2001 rfl (lv_at hl 1 rfl) ?_
  have hTM0 := hTM
  rcases hkp with ⟨en, hkn⟩ | ⟨en, hkr, hTk, hRk⟩
  · subst en
    refine lw_cM (As := []) (rest := []) ⟨hx, hb, hml, hown, htg⟩ (c_X7_image_n l D E G _ ma M hTM hR hkn) (cwV 0 htg (oh_gV q_1421 q_1422 q_1423 q_73 q_1424) rfl rfl rfl pdVX7_image ⟨Nat.le_of_ble_eq_true rfl, Nat.le_of_ble_eq_true rfl⟩) hK hP hD hG hS hA (va_recv hK (oh_suf_P hP) (ci := 7) (q0 := 0) rfl (oh_wg (by omega) (sM_0 hTM))) rfl hl.1 rfl (Nat.le_of_ble_eq_true rfl) dL_law_2002 ⟨show cN + 74 ≤ 600000 by omega, show sN + 1116 ≤ 7302250 by omega⟩ (fun r_5 u_7 H locs hq_6 hP hD hS => ?_)
    obtain ⟨ma2, M2⟩ := u_7
    obtain ⟨ea2, hTM, hR, hk20, hTk, hRk, h7, hcA, hcF, hcK, hcT, hq_6⟩ := hq_6
    have ht3 : ga (C_3 32) = ga (M2 7) := Eq.trans ht3 (congrArg ga (hcA 7 (by decide) (by decide))).symm
    have htK : TIEK 148 C_3 M2 := Or.inr ⟨A0, T0, hq_2.2.1 A0 hAX0, hcK A0 hAM, hok, hq_2.2.2 T0 hUX0, hcT T0 hUM⟩
    have hUM : absTM M2 T0 := absTM_eq hUM (hcA 14 (by decide) (by decide)) (congrArg vi (hcF 19 (by decide)))
    have hAM : absM M2 A0 := absM_n hAM hTM0 hcA hcF
    have hkp : KEPT E 148 ma2 M2 := Or.inr ⟨rfl, hk20, hTk, hRk⟩
    refine W.widen (k := cN + 74) (n := sN + 1116) (Nat.le_refl _) (Nat.le_refl _) ?_
    have em : ma 0 = ma2 0 := (ea2 0 (by decide)).symm
    rw [em] at hl
    have ht1 : gi (C_3 5) 1 = gi (M2 0) 7 := Eq.trans ht1 h7.symm
    have ht2 : gi (C_3 0) 2 = 0 ↔ 148 = 74 := ⟨fun h9 => absurd (Eq.trans h9.symm hq_2.1.2) (by decide), fun h9 => absurd h9 (by decide)⟩
    refine lv_pop hx hb dL_law_2005 rfl ?_
    refine lv_goto (tgt := 2045) hx hb dL_law_2006 (by decide) ?_
    exact kk ma2 C_3 M2 148 (cN + 74) (sN + 1116) H locs ls hT hTM hR hkp ht1 ht2 ht3 ⟨_, _, hAX, hAM, hok, hUX, hUM⟩ htK (by omega) (by omega) hP hD hS hl
  · have hkr0 := hkr
    refine lw_cM (As := []) (rest := []) ⟨hx, hb, hml, hown, htg⟩ (c_X7_image_k l D E G _ ma M n (by omega) hTM hR hkr hTk) (cwV 0 htg (oh_gV q_1421 q_1422 q_1423 q_73 q_1424) rfl rfl rfl pdVX7_image ⟨Nat.le_of_ble_eq_true rfl, Nat.le_of_ble_eq_true rfl⟩) hK hP hD hG hS hA (va_recv hK (oh_suf_P hP) (ci := 7) (q0 := 0) rfl (oh_wg (by omega) (sM_0 hTM))) rfl hl.1 rfl (Nat.le_of_ble_eq_true rfl) dL_law_2002 ⟨show cN + 0 ≤ 600000 by omega, show sN + 0 ≤ 7302250 by omega⟩ (fun r_8 M_10 H locs hq_9 hP hD hS => ?_)
    obtain ⟨hTM, hR, hcc, hTk, hRk, hcK, hcT, hq_9⟩ := hq_9
    have ht3 : ga (C_3 32) = ga (M_10 7) := Eq.trans ht3 (congrArg ga (hcc 7 (by decide))).symm
    have htK : TIEK n C_3 M_10 := Or.inr ⟨A0, T0, hq_2.2.1 A0 hAX0, hcK A0 hAM, hok, hq_2.2.2 T0 hUX0, hcT T0 hUM⟩
    have hUM : absTM M_10 T0 := absTM_eq hUM (hcc 14 (by decide)) (congrArg (fun z => gi z 19) (hcc 0 (by decide)))
    have hAM : absM M_10 A0 := absM_74 hAM hTM0 hcc
    have hkp : KEPT E n ma M_10 := Or.inr ⟨en, (by rw [hcc 0 (by decide)]; exact hkr0), hTk, hRk⟩
    have ht1 : gi (C_3 5) 1 = gi (M_10 0) 7 := by rw [hcc 0 (by decide)]; exact ht1
    have ht2 : gi (C_3 0) 2 = 0 ↔ n = 74 := ⟨fun h9 => absurd (Eq.trans h9.symm hq_2.1.2) (by decide), fun h9 => absurd (Eq.trans en.symm h9) (by decide)⟩
    refine W.widen (k := cN) (n := sN) (Nat.le_refl _) (Nat.le_refl _) ?_
    refine lv_pop hx hb dL_law_2005 rfl ?_
    refine lv_goto (tgt := 2045) hx hb dL_law_2006 (by decide) ?_
    exact kk ma C_3 M_10 n (cN) (sN) H locs ls hT hTM hR hkp ht1 ht2 ht3 ⟨_, _, hAX, hAM, hok, hUX, hUM⟩ htK (by omega) (by omega) hP hD hS hl

set_option maxHeartbeats 4000000 in
set_option maxRecDepth 100000 in
/-- the law at a call of back -/
theorem lc_back {p : Program} {e : Env} {s : State} {m : MethodId} {below : List Frame} {meth : Method} {c : Code} (l : Launch) {b L : Nat} {xs : Nat → Int32} (C0 : lw_At p s m meth c b L xs) (hL : L ≤ 4096) {D : va_G} {E : Nat → ClassId} {G : Nat → Nat} {A : Nat → Prop} (hAe : A = fun q => s.heap.size ≤ q) (hK : va_K D vwCl (oh_ty E) s) (hG : oh_G G A s) {a : Nat → Nat} {i : Nat} (hi : i + 8 ≤ L) {ma : Nat → Nat} {C M : Nat → va_E} {n cN sN : Nat} (hT : TyX a E C) (hTM : TyM ma E M) (hR : RelM M) (hkp : KEPT E n ma M) (ht1 : gi (C 5) 1 = gi (M 0) 7) (ht2 : gi (C 0) 2 = 0 ↔ n = 74) (ht3 : ga (C 32) = ga (M 7)) (htA : ∃ (A0 : LA) (T0 : TP), absX 10 C A0 ∧ absM M A0 ∧ okA A0 ∧ absTX 1 16 C T0 ∧ absTM M T0) (htK : TIEK n C M) (hcN : cN ≤ 35 + n) (hsN : sN ≤ 1477 + 16 * n) {H : Heap} {locs : List Loc} (hP : va_P D vwCl (oh_W 35 a C ++ oh_W n ma M) H) (hD : va_D A (oh_W 35 a C ++ oh_W n ma M)) (hS : va_S A s.heap H locs) {ls : Array Slot} (hl : lv_has ls 4 [(3, .int (nI i)), (2, .ref (ma 0)), (1, .ref (a 0)), (0, .ref b)]) (kk : ∀ (ma : Nat → Nat) (C M : Nat → va_E) (n cN sN : Nat) (H : Heap) (locs : List Loc) (ls : Array Slot), TyX a E C → TyM ma E M → RelM M → KEPT E n ma M → gi (C 5) 1 = gi (M 0) 7 → (gi (C 0) 2 = 0 ↔ n = 74) → ga (C 32) = ga (M 7) → (∃ (A0 : LA) (T0 : TP), absX 10 C A0 ∧ absM M A0 ∧ okA A0 ∧ absTX 1 16 C T0 ∧ absTM M T0) → TIEK n C M → cN ≤ 35 + n → sN ≤ 1477 + 16 * n → va_P D vwCl (oh_W 35 a C ++ oh_W n ma M) H → va_D A (oh_W 35 a C ++ oh_W n ma M) → va_S A s.heap H locs → lv_has ls 4 [(3, .int (nI i)), (2, .ref (ma 0)), (1, .ref (a 0)), (0, .ref b)] → W p l e room_1 s m #[Value.ref b] below meth c H locs cN sN (lw_Z below #[Value.ref b] s) (F0 m 2045 ls [])) : W p l e room_1 s m #[Value.ref b] below meth c H locs cN sN (lw_Z below #[Value.ref b] s) (F0 m 2009 ls []) := by
  obtain ⟨hx, hb, hr, hml, hown, hts, hX, hbl, hlocks, hgv⟩ := id C0
  have hown : s.vm.findClass RL = some m.cls := hown
  have htg : ∀ w ∈ oh_t, w.before _ s = true := fun w h => hts w (List.mem_filter.mp h).1
  have hA : ∀ q, s.heap.size ≤ q → A q := fun q h => by rw [hAe]; exact h
  have hbA : ¬ A b := by rw [hAe]; exact Nat.not_le.mpr hbl
  have hn := hkp.le.1
  have hn8 := hkp.le.2
  have ht10 := ht1
  have ht20 := ht2
  have ht30 := ht3
  obtain ⟨A0, T0, hAX, hAM, hok, hUX, hUM⟩ := htA
  have hAX0 := hAX
  have hAM0 := hAM
  have htK0 := htK
  have hUX0 := hUX
  refine lv_aload_n hx hb dL_law_2009 rfl (lv_at hl 2 rfl) ?_
  refine lw_cX (As := []) (rest := []) ⟨hx, hb, hml, hown, htg⟩ (e3_X6_back l D E G _ a C hT) (cwV 0 htg (oh_gV q_942 q_943 q_944 q_66 q_945) rfl rfl rfl pdVX6_back ⟨Nat.le_of_ble_eq_true rfl, Nat.le_of_ble_eq_true rfl⟩) hK hP hD hG hS hA (va_recv hK (oh_pre_P hP) (ci := 6) (q0 := 0) rfl (oh_wg (by decide) (sX_0 hT))) rfl hl.1 rfl (Nat.le_of_ble_eq_true rfl) dL_law_2010 ⟨show cN + 0 ≤ 600000 by omega, show sN + 0 ≤ 7302250 by omega⟩ (fun r_1 C_3 H locs hq_2 hP hD hS => ?_)
  obtain ⟨hT, f_4, hq_2⟩ := hq_2
  have ht1 : gi (C_3 5) 1 = gi (M 0) 7 := by rw [f_4.1 5 rfl (by decide)]; exact ht1
  have ht2 : gi (C_3 0) 2 = 0 ↔ n = 74 := by rw [show gi (C_3 0) 2 = gi (C 0) 2 from congrArg vi (f_4.2 2 (by decide))]; exact ht2
  have ht3 : ga (C_3 32) = ga (M 7) := Eq.trans (congrArg ga (f_4.1 32 rfl (by decide))) ht3
  have htK := htK.x (fr_all f_4 17 23 (by decide)) (f_4.1 2 rfl (by decide))
  refine W.widen (k := cN) (n := sN) (Nat.le_refl _) (Nat.le_refl _) ?_
  refine lv_pop hx hb dL_law_2013 rfl ?_
  refine lv_aload_n hx hb dL_law_2014 rfl (lv_at hl 1 rfl) ?_
  have hTM0 := hTM
  rcases hkp with ⟨en, hkn⟩ | ⟨en, hkr, hTk, hRk⟩
  · refine lw_cM (As := []) (rest := []) ⟨hx, hb, hml, hown, htg⟩ (c_X7_back_n l D E G _ ma M n hn hTM hR hkn) (cwV 0 htg (oh_gV q_1437 q_1438 q_1439 q_73 q_1440) rfl rfl rfl pdVX7_back ⟨Nat.le_of_ble_eq_true rfl, Nat.le_of_ble_eq_true rfl⟩) hK hP hD hG hS hA (va_recv hK (oh_suf_P hP) (ci := 7) (q0 := 0) rfl (oh_wg (by omega) (sM_0 hTM))) rfl hl.1 rfl (Nat.le_of_ble_eq_true rfl) dL_law_2015 ⟨show cN + 0 ≤ 600000 by omega, show sN + 0 ≤ 7302250 by omega⟩ (fun r_5 M_7 H locs hq_6 hP hD hS => ?_)
    obtain ⟨hTM, f_8, hR, hq_6⟩ := hq_6
    have hkp : KEPT E n ma M_7 := kept_fr (Or.inl ⟨en, hkn⟩) f_8 (by decide)
    refine W.widen (k := cN) (n := sN) (Nat.le_refl _) (Nat.le_refl _) ?_
    have ht1 : gi (C_3 5) 1 = gi (M_7 0) 7 := by rw [show gi (M_7 0) 7 = gi (M 0) 7 from congrArg vi (f_8.2 7 (by decide))]; exact ht1
    have ht3 : ga (C_3 32) = ga (M_7 7) := Eq.trans ht3 (congrArg ga (f_8.1 7 rfl (by decide))).symm
    have htK := htK.m f_8 (by decide)
    have hAM : absM M_7 A0 := absM_fr hAM hTM0 f_8 (by decide) (by decide) (by decide)
    have hAX : absX 10 C_3 A0 := absX_eq hAX (fun k k1 k2 => hq_2.2.1.2 (by rw [hq_2.1, if_pos (ht20.mpr en)]; decide) k k1 (by omega))
    have hUM : absTM M_7 T0 := absTM_eq hUM (f_8.1 14 rfl (by decide)) (congrArg vi (f_8.2 19 (by decide)))
    have hUX : absTX 1 16 C_3 T0 := hq_2.2.2.2 (by rw [hq_2.1, if_pos (ht20.mpr en)]; decide) T0 hUX
    refine lv_pop hx hb dL_law_2018 rfl ?_
    refine lv_goto (tgt := 2045) hx hb dL_law_2019 (by decide) ?_
    exact kk ma C_3 M_7 n (cN) (sN) H locs ls hT hTM hR hkp ht1 ht2 ht3 ⟨_, _, hAX, hAM, hok, hUX, hUM⟩ htK (by omega) (by omega) hP hD hS hl
  · refine lw_cM (As := []) (rest := []) ⟨hx, hb, hml, hown, htg⟩ (c_X7_back_k l D E G _ ma M n hn hTM hR hkr (by omega) hTk hRk) (cwV 0 htg (oh_gV q_1437 q_1438 q_1439 q_73 q_1440) rfl rfl rfl pdVX7_back ⟨Nat.le_of_ble_eq_true rfl, Nat.le_of_ble_eq_true rfl⟩) hK hP hD hG hS hA (va_recv hK (oh_suf_P hP) (ci := 7) (q0 := 0) rfl (oh_wg (by omega) (sM_0 hTM))) rfl hl.1 rfl (Nat.le_of_ble_eq_true rfl) dL_law_2015 ⟨show cN + 0 ≤ 600000 by omega, show sN + 0 ≤ 7302250 by omega⟩ (fun r_9 M_11 H locs hq_10 hP hD hS => ?_)
    obtain ⟨hTM, f_12, hR, hq_10⟩ := hq_10
    have ht1 : gi (C_3 5) 1 = gi (M_11 0) 7 := by rw [show gi (M_11 0) 7 = gi (M 0) 7 from congrArg vi (f_12.2 7 (by decide))]; exact ht1
    have hkp : KEPT E n ma M_11 := kept_fr (Or.inr ⟨en, hkr, hTk, hRk⟩) f_12 (by decide)
    have ht3 : ga (C_3 32) = ga (M_11 7) := Eq.trans ht3 (congrArg ga (f_12.1 7 rfl (by decide))).symm
    obtain ⟨AJ, TJ, hJX, hJM, hok, hJT, hJU⟩ := htK0.k (by rw [en]; decide)
    have hAX : absX 10 C_3 AJ := hq_2.2.1.1 (by rw [hq_2.1, if_neg (fun h9 => absurd (Eq.trans en.symm (ht20.mp h9)) (by decide))]) AJ hJX
    have hAM : absM M_11 AJ := hq_10.2.1 AJ hJM
    have hUM : absTM M_11 TJ := hq_10.2.2 TJ hJU
    have hUX : absTX 1 16 C_3 TJ := hq_2.2.2.1 (by rw [hq_2.1, if_neg (fun h9 => absurd (Eq.trans en.symm (ht20.mp h9)) (by decide))]) TJ hJT
    have htK := htK.m f_12 (by decide)
    refine W.widen (k := cN) (n := sN) (Nat.le_refl _) (Nat.le_refl _) ?_
    refine lv_pop hx hb dL_law_2018 rfl ?_
    refine lv_goto (tgt := 2045) hx hb dL_law_2019 (by decide) ?_
    exact kk ma C_3 M_11 n (cN) (sN) H locs ls hT hTM hR hkp ht1 ht2 ht3 ⟨_, _, hAX, hAM, hok, hUX, hUM⟩ htK (by omega) (by omega) hP hD hS hl

set_option maxHeartbeats 4000000 in
set_option maxRecDepth 100000 in
/-- the law at a call of status -/
theorem lc_status {p : Program} {e : Env} {s : State} {m : MethodId} {below : List Frame} {meth : Method} {c : Code} (l : Launch) {b L : Nat} {xs : Nat → Int32} (C0 : lw_At p s m meth c b L xs) (hL : L ≤ 4096) {D : va_G} {E : Nat → ClassId} {G : Nat → Nat} {A : Nat → Prop} (hAe : A = fun q => s.heap.size ≤ q) (hK : va_K D vwCl (oh_ty E) s) (hG : oh_G G A s) {a : Nat → Nat} {i : Nat} (hi : i + 8 ≤ L) {ma : Nat → Nat} {C M : Nat → va_E} {n cN sN : Nat} (hT : TyX a E C) (hTM : TyM ma E M) (hR : RelM M) (hkp : KEPT E n ma M) (ht1 : gi (C 5) 1 = gi (M 0) 7) (ht2 : gi (C 0) 2 = 0 ↔ n = 74) (ht3 : ga (C 32) = ga (M 7)) (htA : ∃ (A0 : LA) (T0 : TP), absX 10 C A0 ∧ absM M A0 ∧ okA A0 ∧ absTX 1 16 C T0 ∧ absTM M T0) (htK : TIEK n C M) (hcN : cN ≤ 35 + n) (hsN : sN ≤ 1477 + 16 * n) {H : Heap} {locs : List Loc} (hP : va_P D vwCl (oh_W 35 a C ++ oh_W n ma M) H) (hD : va_D A (oh_W 35 a C ++ oh_W n ma M)) (hS : va_S A s.heap H locs) {ls : Array Slot} (hl : lv_has ls 4 [(3, .int (nI i)), (2, .ref (ma 0)), (1, .ref (a 0)), (0, .ref b)]) (kk : ∀ (ma : Nat → Nat) (C M : Nat → va_E) (n cN sN : Nat) (H : Heap) (locs : List Loc) (ls : Array Slot), TyX a E C → TyM ma E M → RelM M → KEPT E n ma M → gi (C 5) 1 = gi (M 0) 7 → (gi (C 0) 2 = 0 ↔ n = 74) → ga (C 32) = ga (M 7) → (∃ (A0 : LA) (T0 : TP), absX 10 C A0 ∧ absM M A0 ∧ okA A0 ∧ absTX 1 16 C T0 ∧ absTM M T0) → TIEK n C M → cN ≤ 35 + n → sN ≤ 1477 + 16 * n → va_P D vwCl (oh_W 35 a C ++ oh_W n ma M) H → va_D A (oh_W 35 a C ++ oh_W n ma M) → va_S A s.heap H locs → lv_has ls 4 [(3, .int (nI i)), (2, .ref (ma 0)), (1, .ref (a 0)), (0, .ref b)] → W p l e room_1 s m #[Value.ref b] below meth c H locs cN sN (lw_Z below #[Value.ref b] s) (F0 m 2045 ls [])) : W p l e room_1 s m #[Value.ref b] below meth c H locs cN sN (lw_Z below #[Value.ref b] s) (F0 m 2022 ls []) := by
  obtain ⟨hx, hb, hr, hml, hown, hts, hX, hbl, hlocks, hgv⟩ := id C0
  have hown : s.vm.findClass RL = some m.cls := hown
  have htg : ∀ w ∈ oh_t, w.before _ s = true := fun w h => hts w (List.mem_filter.mp h).1
  have hA : ∀ q, s.heap.size ≤ q → A q := fun q h => by rw [hAe]; exact h
  have hbA : ¬ A b := by rw [hAe]; exact Nat.not_le.mpr hbl
  have hn := hkp.le.1
  have hn8 := hkp.le.2
  have ht10 := ht1
  have ht20 := ht2
  have ht30 := ht3
  obtain ⟨A0, T0, hAX, hAM, hok, hUX, hUM⟩ := htA
  have hAX0 := hAX
  have hAM0 := hAM
  have htK0 := htK
  have hUX0 := hUX
  refine lv_aload_n hx hb dL_law_2022 rfl (lv_at hl 2 rfl) ?_
  refine lv_aload_n hx hb dL_law_2023 rfl (lv_at hl 3 rfl) ?_
  refine lv_iload_n hx hb dL_law_2024 rfl (lv_at hl 0 rfl) ?_
  refine lv_iconst (v := 1) hx hb dL_law_2025 (by decide) ?_
  refine lv_iadd hx hb dL_law_2026 ?_
  refine va_sld hx hb hX hbl hbA hS (lw_ix hi hL (rg_c (v := 1) (lo := 1) (hi := 1) (by decide)) (by decide)) dL_law_2027 ?_
  refine tq_V (As := [.int (xs ((nI i) + 1).toNatClampNeg)]) (rest := []) (ws := oh_W 35 a C) ⟨hx, hb, hml, hown, htg⟩ (c_X6_status l D E G a C hT (xs ((nI i) + 1).toNatClampNeg)) (cwV 1 htg (oh_gV q_951 q_952 q_953 q_66 q_954) rfl rfl rfl pdVX6_status ⟨Nat.le_of_ble_eq_true rfl, Nat.le_of_ble_eq_true rfl⟩) hK (oh_pre_P hP) hG hS (va_recv hK (oh_pre_P hP) (ci := 6) (q0 := 0) rfl (oh_wg (by decide) (sX_0 hT))) rfl hl.1 rfl (Nat.le_of_ble_eq_true rfl) dL_law_2028 ⟨show cN ≤ 600000 by omega, show sN ≤ 7302250 by omega⟩ (fun r_1 hq_2 => ?_)
  refine lv_pop hx hb dL_law_2031 rfl ?_
  refine lv_aload_n hx hb dL_law_2032 rfl (lv_at hl 1 rfl) ?_
  refine lv_aload_n hx hb dL_law_2033 rfl (lv_at hl 3 rfl) ?_
  refine lv_iload_n hx hb dL_law_2034 rfl (lv_at hl 0 rfl) ?_
  refine lv_iconst (v := 1) hx hb dL_law_2035 (by decide) ?_
  refine lv_iadd hx hb dL_law_2036 ?_
  refine va_sld hx hb hX hbl hbA hS (lw_ix hi hL (rg_c (v := 1) (lo := 1) (hi := 1) (by decide)) (by decide)) dL_law_2037 ?_
  refine tq_V (As := [.int (xs ((nI i) + 1).toNatClampNeg)]) (rest := []) (ws := oh_W n ma M) ⟨hx, hb, hml, hown, htg⟩ (c_X7_status l D E G ma M n hn hTM (xs ((nI i) + 1).toNatClampNeg) hR) (cwV 1 htg (oh_gV q_1441 q_1442 q_1443 q_73 q_1444) rfl rfl rfl pdVX7_status ⟨Nat.le_of_ble_eq_true rfl, Nat.le_of_ble_eq_true rfl⟩) hK (oh_suf_P hP) hG hS (va_recv hK (oh_suf_P hP) (ci := 7) (q0 := 0) rfl (oh_wg (by omega) (sM_0 hTM))) rfl hl.1 rfl (Nat.le_of_ble_eq_true rfl) dL_law_2038 ⟨show cN ≤ 600000 by omega, show sN ≤ 7302250 by omega⟩ (fun r_3 hq_4 => ?_)
  refine lv_pop hx hb dL_law_2041 rfl ?_
  refine lv_goto (tgt := 2045) hx hb dL_law_2042 (by decide) ?_
  exact kk ma C M n (cN) (sN) H locs ls hT hTM hR hkp ht1 ht2 ht3 ⟨_, _, hAX, hAM, hok, hUX, hUM⟩ htK (by omega) (by omega) hP hD hS hl
theorem bg_dL_law_0 : bysAt cL_law 0 [187, 0, 7, 89, 183, 0, 9, 76, 187, 0, 10, 89, 183, 0, 12, 77, 3, 62, 29, 42, 190, 16, 8] := bysAt_of (by decide +kernel)
theorem dL_law_0 : decode cL_law 0 = .ok (.new 7, 3) := o_187 (bg_dL_law_0 0 187 rfl) (bg_dL_law_0 1 0 rfl) (bg_dL_law_0 2 7 rfl)
theorem dL_law_3 : decode cL_law 3 = .ok (.dup, 1) := o_89 (bg_dL_law_0 3 89 rfl)
theorem dL_law_4 : decode cL_law 4 = .ok (.invokespecial 9, 3) := o_183 (bg_dL_law_0 4 183 rfl) (bg_dL_law_0 5 0 rfl) (bg_dL_law_0 6 9 rfl)
theorem dL_law_7 : decode cL_law 7 = .ok (.astore_n 1, 1) := o_76 (bg_dL_law_0 7 76 rfl)
theorem dL_law_8 : decode cL_law 8 = .ok (.new 10, 3) := o_187 (bg_dL_law_0 8 187 rfl) (bg_dL_law_0 9 0 rfl) (bg_dL_law_0 10 10 rfl)
theorem dL_law_11 : decode cL_law 11 = .ok (.dup, 1) := o_89 (bg_dL_law_0 11 89 rfl)
theorem dL_law_12 : decode cL_law 12 = .ok (.invokespecial 12, 3) := o_183 (bg_dL_law_0 12 183 rfl) (bg_dL_law_0 13 0 rfl) (bg_dL_law_0 14 12 rfl)
theorem dL_law_15 : decode cL_law 15 = .ok (.astore_n 2, 1) := o_77 (bg_dL_law_0 15 77 rfl)
theorem dL_law_16 : decode cL_law 16 = .ok (.iconst 0, 1) := o_3 (bg_dL_law_0 16 3 rfl)
theorem dL_law_17 : decode cL_law 17 = .ok (.istore_n 3, 1) := o_62 (bg_dL_law_0 17 62 rfl)
theorem dL_law_18 : decode cL_law 18 = .ok (.iload_n 3, 1) := o_29 (bg_dL_law_0 18 29 rfl)
theorem dL_law_19 : decode cL_law 19 = .ok (.aload_n 0, 1) := o_42 (bg_dL_law_0 19 42 rfl)
theorem dL_law_20 : decode cL_law 20 = .ok (.arraylength, 1) := o_190 (bg_dL_law_0 20 190 rfl)
theorem dL_law_21 : decode cL_law 21 = .ok (.bipush 8, 2) := o_16 (bg_dL_law_0 21 16 rfl) (bg_dL_law_0 22 8 rfl) (by decide +kernel)
theorem bg_dL_law_23 : bysAt cL_law 23 [100, 163, 7, 235, 42, 29, 46, 16, 63, 126] := bysAt_of (by decide +kernel)
theorem dL_law_23 : decode cL_law 23 = .ok (.isub, 1) := o_100 (bg_dL_law_23 0 100 rfl)
theorem dL_law_24 : decode cL_law 24 = .ok (.if_icmp .gt 2027, 3) := o_163 (bg_dL_law_23 1 163 rfl) (bg_dL_law_23 2 7 rfl) (bg_dL_law_23 3 235 rfl) (by decide +kernel)
theorem dL_law_27 : decode cL_law 27 = .ok (.aload_n 0, 1) := o_42 (bg_dL_law_23 4 42 rfl)
theorem dL_law_28 : decode cL_law 28 = .ok (.iload_n 3, 1) := o_29 (bg_dL_law_23 5 29 rfl)
theorem dL_law_29 : decode cL_law 29 = .ok (.iaload, 1) := o_46 (bg_dL_law_23 6 46 rfl)
theorem dL_law_30 : decode cL_law 30 = .ok (.bipush 63, 2) := o_16 (bg_dL_law_23 7 16 rfl) (bg_dL_law_23 8 63 rfl) (by decide +kernel)
theorem dL_law_32 : decode cL_law 32 = .ok (.iand, 1) := o_126 (bg_dL_law_23 9 126 rfl)
theorem bg_dL_law_2048 : bysAt cL_law 2048 [167, 248, 18, 4, 172] := bysAt_of (by decide +kernel)
theorem dL_law_2048 : decode cL_law 2048 = .ok (.goto (-2030), 3) := o_167 (bg_dL_law_2048 0 167 rfl) (bg_dL_law_2048 1 248 rfl) (bg_dL_law_2048 2 18 rfl) (by decide +kernel)
theorem dL_law_2051 : decode cL_law 2051 = .ok (.iconst 1, 1) := o_4 (bg_dL_law_2048 3 4 rfl)
theorem dL_law_2052 : decode cL_law 2052 = .ok (.ireturn, 1) := o_172 (bg_dL_law_2048 4 172 rfl)
theorem dL_law_33 : decode cL_law 33 = .ok (.tableswitch 2012 0 42 #[187, 230, 303, 366, 399, 422, 455, 488, 563, 626, 669, 712, 745, 778, 837, 886, 919, 932, 945, 978, 1011, 1060, 1083, 1116, 1159, 1202, 1255, 1308, 1361, 1424, 1467, 1530, 1605, 1648, 1701, 1744, 1787, 1874, 1927, 1940, 1963, 1976, 1989], 187) := by decide +kernel
theorem dL_law_2045 : decode cL_law 2045 = .ok (.iinc 3 8, 3) := by decide +kernel
set_option maxHeartbeats 4000000 in
set_option maxRecDepth 100000 in
theorem lw_cmp {i L : Nat} (hL : L ≤ 4096) (hi : i ≤ L) : (Int32.ofNat L - 8 < nI i) ↔ ¬ (i + 8 ≤ L) := by
  rw [Int32.lt_iff_toInt_lt, nI_toInt (by omega)]
  have e1 : (Int32.ofNat L).toInt = (L : Int) := nI_toInt (n := L) (by omega)
  have e2 : (Int32.ofNat L - 8).toInt = (L : Int) - 8 := by
    rw [Int32.toInt_sub, e1]
    exact oh_bmod (by show _ ≤ (L : Int) - 8; omega) (by show (L : Int) - 8 ≤ _; omega)
  rw [e2]
  omega
set_option maxHeartbeats 4000000 in
set_option maxRecDepth 100000 in
/-- the law at its loop -/
theorem lw_18 {p : Program} {e : Env} {s : State} {m : MethodId} {below : List Frame} {meth : Method} {c : Code} (l : Launch) {b L : Nat} {xs : Nat → Int32} (C0 : lw_At p s m meth c b L xs) (hL : L ≤ 4096) {D : va_G} {E : Nat → ClassId} {G : Nat → Nat} {A : Nat → Prop} (hAe : A = fun q => s.heap.size ≤ q) (hK : va_K D vwCl (oh_ty E) s) (hG : oh_G G A s) {a : Nat → Nat} : ∀ (d i : Nat) (ma : Nat → Nat) (C M : Nat → va_E) (n cN sN : Nat) (H : Heap) (locs : List Loc) (ls : Array Slot), L - i = d → i ≤ L → TyX a E C → TyM ma E M → RelM M → KEPT E n ma M → gi (C 5) 1 = gi (M 0) 7 → (gi (C 0) 2 = 0 ↔ n = 74) → ga (C 32) = ga (M 7) → (∃ (A0 : LA) (T0 : TP), absX 10 C A0 ∧ absM M A0 ∧ okA A0 ∧ absTX 1 16 C T0 ∧ absTM M T0) → TIEK n C M → cN ≤ 35 + n → sN ≤ 1477 + 16 * n → va_P D vwCl (oh_W 35 a C ++ oh_W n ma M) H → va_D A (oh_W 35 a C ++ oh_W n ma M) → va_S A s.heap H locs → lv_has ls 4 [(3, .int (nI i)), (2, .ref (ma 0)), (1, .ref (a 0)), (0, .ref b)] → W p l e room_1 s m #[Value.ref b] below meth c H locs cN sN (lw_Z below #[Value.ref b] s) (F0 m 18 ls []) := by
  obtain ⟨hx, hb, hr, hml, hown, hts, hX, hbl, hlocks, hgv⟩ := id C0
  have hbA : ¬ A b := by rw [hAe]; exact Nat.not_le.mpr hbl
  intro d
  induction d using Nat.strongRecOn with
  | ind d ih =>
    intro i ma C M n cN sN H locs ls hd hiL hT hTM hR hkp ht1 ht2 ht3 htA htK hcN hsN hP hD hS hl
    have hn8 := hkp.le.2
    refine lv_iload_n hx hb dL_law_18 rfl (lv_at hl 0 rfl) ?_
    refine lv_aload_n hx hb dL_law_19 rfl (lv_at hl 3 rfl) ?_
    refine va_slen hx hb hX hbl hbA hS dL_law_20 ?_
    refine lv_bipush (v := 8) hx hb dL_law_21 (by decide) ?_
    refine lv_isub hx hb dL_law_23 ?_
    by_cases h8 : i + 8 ≤ L
    · refine lv_icmp_gt (tgt := 2051) hx hb dL_law_24 (by decide) (fun c => absurd h8 ((lw_cmp hL hiL).mp c)) (fun _ => ?_)
      refine lv_aload_n hx hb dL_law_27 rfl (lv_at hl 3 rfl) ?_
      refine lv_iload_n hx hb dL_law_28 rfl (lv_at hl 0 rfl) ?_
      refine va_sld hx hb hX hbl hbA hS (vp_in_nI (by omega) (by omega)) dL_law_29 ?_
      refine lv_bipush (v := 63) hx hb dL_law_30 (by decide) ?_
      refine lv_iand hx hb dL_law_32 ?_
      have nxt : ∀ (ma : Nat → Nat) (C M : Nat → va_E) (n cN sN : Nat) (H : Heap) (locs : List Loc) (ls : Array Slot), TyX a E C → TyM ma E M → RelM M → KEPT E n ma M → gi (C 5) 1 = gi (M 0) 7 → (gi (C 0) 2 = 0 ↔ n = 74) → ga (C 32) = ga (M 7) → (∃ (A0 : LA) (T0 : TP), absX 10 C A0 ∧ absM M A0 ∧ okA A0 ∧ absTX 1 16 C T0 ∧ absTM M T0) → TIEK n C M → cN ≤ 35 + n → sN ≤ 1477 + 16 * n → va_P D vwCl (oh_W 35 a C ++ oh_W n ma M) H → va_D A (oh_W 35 a C ++ oh_W n ma M) → va_S A s.heap H locs → lv_has ls 4 [(3, .int (nI i)), (2, .ref (ma 0)), (1, .ref (a 0)), (0, .ref b)] → W p l e room_1 s m #[Value.ref b] below meth c H locs cN sN (lw_Z below #[Value.ref b] s) (F0 m 2045 ls []) := by
        intro ma C M n cN sN H locs ls hT hTM hR hkp ht1 ht2 ht3 htA htK hcN hsN hP hD hS hl
        refine lv_iinc (v := nI (i + 8)) (lv' := [(3, .int (nI (i + 8))), (2, .ref (ma 0)), (1, .ref (a 0)), (0, .ref b)]) hx hb dL_law_2045 hl (k := 0) rfl (by exact nI_add i 8) (by decide) rfl (fun ls hl => ?_)
        refine lv_goto (tgt := 18) hx hb dL_law_2048 (by decide) ?_
        exact ih (L - (i + 8)) (by omega) (i + 8) ma C M n cN sN H locs ls rfl h8 hT hTM hR hkp ht1 ht2 ht3 htA htK hcN hsN hP hD hS hl
      obtain ⟨j, hj, ej⟩ := pk_andE (xs (nI i).toNatClampNeg) (m := 63) 6 (by decide)
      rw [ej]
      rcases (show j = 0 ∨ j = 1 ∨ j = 2 ∨ j = 3 ∨ j = 4 ∨ j = 5 ∨ j = 6 ∨ j = 7 ∨ j = 8 ∨ j = 9 ∨ j = 10 ∨ j = 11 ∨ j = 12 ∨ j = 13 ∨ j = 14 ∨ j = 15 ∨ j = 16 ∨ j = 17 ∨ j = 18 ∨ j = 19 ∨ j = 20 ∨ j = 21 ∨ j = 22 ∨ j = 23 ∨ j = 24 ∨ j = 25 ∨ j = 26 ∨ j = 27 ∨ j = 28 ∨ j = 29 ∨ j = 30 ∨ j = 31 ∨ j = 32 ∨ j = 33 ∨ j = 34 ∨ j = 35 ∨ j = 36 ∨ j = 37 ∨ j = 38 ∨ j = 39 ∨ j = 40 ∨ j = 41 ∨ j = 42 ∨ 43 ≤ j by omega) with rfl | rfl | rfl | rfl | rfl | rfl | rfl | rfl | rfl | rfl | rfl | rfl | rfl | rfl | rfl | rfl | rfl | rfl | rfl | rfl | rfl | rfl | rfl | rfl | rfl | rfl | rfl | rfl | rfl | rfl | rfl | rfl | rfl | rfl | rfl | rfl | rfl | rfl | rfl | rfl | rfl | rfl | rfl | h43
      · refine lv_tableIn (off := 187) (tgt := 220) hx hb dL_law_33 (by decide) (by decide) (by decide) (by decide) ?_
        exact lc_row l C0 hL hAe hK hG h8 hT hTM hR hkp ht1 ht2 ht3 htA htK hcN hsN hP hD hS hl nxt
      · refine lv_tableIn (off := 230) (tgt := 263) hx hb dL_law_33 (by decide) (by decide) (by decide) (by decide) ?_
        exact lc_set l C0 hL hAe hK hG h8 hT hTM hR hkp ht1 ht2 ht3 htA htK hcN hsN hP hD hS hl nxt
      · refine lv_tableIn (off := 303) (tgt := 336) hx hb dL_law_33 (by decide) (by decide) (by decide) (by decide) ?_
        exact lc_copy l C0 hL hAe hK hG h8 hT hTM hR hkp ht1 ht2 ht3 htA htK hcN hsN hP hD hS hl nxt
      · refine lv_tableIn (off := 366) (tgt := 399) hx hb dL_law_33 (by decide) (by decide) (by decide) (by decide) ?_
        exact lc_element l C0 hL hAe hK hG h8 hT hTM hR hkp ht1 ht2 ht3 htA htK hcN hsN hP hD hS hl nxt
      · refine lv_tableIn (off := 399) (tgt := 432) hx hb dL_law_33 (by decide) (by decide) (by decide) (by decide) ?_
        exact lc_holds l C0 hL hAe hK hG h8 hT hTM hR hkp ht1 ht2 ht3 htA htK hcN hsN hP hD hS hl nxt
      · refine lv_tableIn (off := 422) (tgt := 455) hx hb dL_law_33 (by decide) (by decide) (by decide) (by decide) ?_
        exact lc_show l C0 hL hAe hK hG h8 hT hTM hR hkp ht1 ht2 ht3 htA htK hcN hsN hP hD hS hl nxt
      · refine lv_tableIn (off := 455) (tgt := 488) hx hb dL_law_33 (by decide) (by decide) (by decide) (by decide) ?_
        exact lc_says l C0 hL hAe hK hG h8 hT hTM hR hkp ht1 ht2 ht3 htA htK hcN hsN hP hD hS hl nxt
      · refine lv_tableIn (off := 488) (tgt := 521) hx hb dL_law_33 (by decide) (by decide) (by decide) (by decide) ?_
        exact lc_road l C0 hL hAe hK hG h8 hT hTM hR hkp ht1 ht2 ht3 htA htK hcN hsN hP hD hS hl nxt
      · refine lv_tableIn (off := 563) (tgt := 596) hx hb dL_law_33 (by decide) (by decide) (by decide) (by decide) ?_
        exact lc_bridge l C0 hL hAe hK hG h8 hT hTM hR hkp ht1 ht2 ht3 htA htK hcN hsN hP hD hS hl nxt
      · refine lv_tableIn (off := 626) (tgt := 659) hx hb dL_law_33 (by decide) (by decide) (by decide) (by decide) ?_
        exact lc_prop l C0 hL hAe hK hG h8 hT hTM hR hkp ht1 ht2 ht3 htA htK hcN hsN hP hD hS hl nxt
      · refine lv_tableIn (off := 669) (tgt := 702) hx hb dL_law_33 (by decide) (by decide) (by decide) (by decide) ?_
        exact lc_waggon l C0 hL hAe hK hG h8 hT hTM hR hkp ht1 ht2 ht3 htA htK hcN hsN hP hD hS hl nxt
      · refine lv_tableIn (off := 712) (tgt := 745) hx hb dL_law_33 (by decide) (by decide) (by decide) (by decide) ?_
        exact lc_part l C0 hL hAe hK hG h8 hT hTM hR hkp ht1 ht2 ht3 htA htK hcN hsN hP hD hS hl nxt
      · refine lv_tableIn (off := 745) (tgt := 778) hx hb dL_law_33 (by decide) (by decide) (by decide) (by decide) ?_
        exact lc_ask l C0 hL hAe hK hG h8 hT hTM hR hkp ht1 ht2 ht3 htA htK hcN hsN hP hD hS hl nxt
      · refine lv_tableIn (off := 778) (tgt := 811) hx hb dL_law_33 (by decide) (by decide) (by decide) (by decide) ?_
        exact lc_stand l C0 hL hAe hK hG h8 hT hTM hR hkp ht1 ht2 ht3 htA htK hcN hsN hP hD hS hl nxt
      · refine lv_tableIn (off := 837) (tgt := 870) hx hb dL_law_33 (by decide) (by decide) (by decide) (by decide) ?_
        exact lc_shut l C0 hL hAe hK hG h8 hT hTM hR hkp ht1 ht2 ht3 htA htK hcN hsN hP hD hS hl nxt
      · refine lv_tableIn (off := 886) (tgt := 919) hx hb dL_law_33 (by decide) (by decide) (by decide) (by decide) ?_
        exact lc_feed l C0 hL hAe hK hG h8 hT hTM hR hkp ht1 ht2 ht3 htA htK hcN hsN hP hD hS hl nxt
      · refine lv_tableIn (off := 919) (tgt := 952) hx hb dL_law_33 (by decide) (by decide) (by decide) (by decide) ?_
        exact lc_wipe l C0 hL hAe hK hG h8 hT hTM hR hkp ht1 ht2 ht3 htA htK hcN hsN hP hD hS hl nxt
      · refine lv_tableIn (off := 932) (tgt := 965) hx hb dL_law_33 (by decide) (by decide) (by decide) (by decide) ?_
        exact lc_land l C0 hL hAe hK hG h8 hT hTM hR hkp ht1 ht2 ht3 htA htK hcN hsN hP hD hS hl nxt
      · refine lv_tableIn (off := 945) (tgt := 978) hx hb dL_law_33 (by decide) (by decide) (by decide) (by decide) ?_
        exact lc_roadOf l C0 hL hAe hK hG h8 hT hTM hR hkp ht1 ht2 ht3 htA htK hcN hsN hP hD hS hl nxt
      · refine lv_tableIn (off := 978) (tgt := 1011) hx hb dL_law_33 (by decide) (by decide) (by decide) (by decide) ?_
        exact lc_bridgeOf l C0 hL hAe hK hG h8 hT hTM hR hkp ht1 ht2 ht3 htA htK hcN hsN hP hD hS hl nxt
      · refine lv_tableIn (off := 1011) (tgt := 1044) hx hb dL_law_33 (by decide) (by decide) (by decide) (by decide) ?_
        exact lc_bears l C0 hL hAe hK hG h8 hT hTM hR hkp ht1 ht2 ht3 htA htK hcN hsN hP hD hS hl nxt
      · refine lv_tableIn (off := 1060) (tgt := 1093) hx hb dL_law_33 (by decide) (by decide) (by decide) (by decide) ?_
        exact lc_length l C0 hL hAe hK hG h8 hT hTM hR hkp ht1 ht2 ht3 htA htK hcN hsN hP hD hS hl nxt
      · refine lv_tableIn (off := 1083) (tgt := 1116) hx hb dL_law_33 (by decide) (by decide) (by decide) (by decide) ?_
        exact lc_axle l C0 hL hAe hK hG h8 hT hTM hR hkp ht1 ht2 ht3 htA htK hcN hsN hP hD hS hl nxt
      · refine lv_tableIn (off := 1116) (tgt := 1149) hx hb dL_law_33 (by decide) (by decide) (by decide) (by decide) ?_
        exact lc_strain l C0 hL hAe hK hG h8 hT hTM hR hkp ht1 ht2 ht3 htA htK hcN hsN hP hD hS hl nxt
      · refine lv_tableIn (off := 1159) (tgt := 1192) hx hb dL_law_33 (by decide) (by decide) (by decide) (by decide) ?_
        exact lc_needs l C0 hL hAe hK hG h8 hT hTM hR hkp ht1 ht2 ht3 htA htK hcN hsN hP hD hS hl nxt
      · refine lv_tableIn (off := 1202) (tgt := 1235) hx hb dL_law_33 (by decide) (by decide) (by decide) (by decide) ?_
        exact lc_goes l C0 hL hAe hK hG h8 hT hTM hR hkp ht1 ht2 ht3 htA htK hcN hsN hP hD hS hl nxt
      · refine lv_tableIn (off := 1255) (tgt := 1288) hx hb dL_law_33 (by decide) (by decide) (by decide) (by decide) ?_
        exact lc_cheapest l C0 hL hAe hK hG h8 hT hTM hR hkp ht1 ht2 ht3 htA htK hcN hsN hP hD hS hl nxt
      · refine lv_tableIn (off := 1308) (tgt := 1341) hx hb dL_law_33 (by decide) (by decide) (by decide) (by decide) ?_
        exact lc_soonest l C0 hL hAe hK hG h8 hT hTM hR hkp ht1 ht2 ht3 htA htK hcN hsN hP hD hS hl nxt
      · refine lv_tableIn (off := 1361) (tgt := 1394) hx hb dL_law_33 (by decide) (by decide) (by decide) (by decide) ?_
        exact lc_again l C0 hL hAe hK hG h8 hT hTM hR hkp ht1 ht2 ht3 htA htK hcN hsN hP hD hS hl nxt
      · refine lv_tableIn (off := 1424) (tgt := 1457) hx hb dL_law_33 (by decide) (by decide) (by decide) (by decide) ?_
        exact lc_best l C0 hL hAe hK hG h8 hT hTM hR hkp ht1 ht2 ht3 htA htK hcN hsN hP hD hS hl nxt
      · refine lv_tableIn (off := 1467) (tgt := 1500) hx hb dL_law_33 (by decide) (by decide) (by decide) (by decide) ?_
        exact lc_judge l C0 hL hAe hK hG h8 hT hTM hR hkp ht1 ht2 ht3 htA htK hcN hsN hP hD hS hl nxt
      · refine lv_tableIn (off := 1530) (tgt := 1563) hx hb dL_law_33 (by decide) (by decide) (by decide) (by decide) ?_
        exact lc_told l C0 hL hAe hK hG h8 hT hTM hR hkp ht1 ht2 ht3 htA htK hcN hsN hP hD hS hl nxt
      · refine lv_tableIn (off := 1605) (tgt := 1638) hx hb dL_law_33 (by decide) (by decide) (by decide) (by decide) ?_
        exact lc_reach l C0 hL hAe hK hG h8 hT hTM hR hkp ht1 ht2 ht3 htA htK hcN hsN hP hD hS hl nxt
      · refine lv_tableIn (off := 1648) (tgt := 1681) hx hb dL_law_33 (by decide) (by decide) (by decide) (by decide) ?_
        exact lc_hang l C0 hL hAe hK hG h8 hT hTM hR hkp ht1 ht2 ht3 htA htK hcN hsN hP hD hS hl nxt
      · refine lv_tableIn (off := 1701) (tgt := 1734) hx hb dL_law_33 (by decide) (by decide) (by decide) (by decide) ?_
        exact lc_fewest l C0 hL hAe hK hG h8 hT hTM hR hkp ht1 ht2 ht3 htA htK hcN hsN hP hD hS hl nxt
      · refine lv_tableIn (off := 1744) (tgt := 1777) hx hb dL_law_33 (by decide) (by decide) (by decide) (by decide) ?_
        exact lc_most l C0 hL hAe hK hG h8 hT hTM hR hkp ht1 ht2 ht3 htA htK hcN hsN hP hD hS hl nxt
      · refine lv_tableIn (off := 1787) (tgt := 1820) hx hb dL_law_33 (by decide) (by decide) (by decide) (by decide) ?_
        exact lc_frost l C0 hL hAe hK hG h8 hT hTM hR hkp ht1 ht2 ht3 htA htK hcN hsN hP hD hS hl nxt
      · refine lv_tableIn (off := 1874) (tgt := 1907) hx hb dL_law_33 (by decide) (by decide) (by decide) (by decide) ?_
        exact lc_begin l C0 hL hAe hK hG h8 hT hTM hR hkp ht1 ht2 ht3 htA htK hcN hsN hP hD hS hl nxt
      · refine lv_tableIn (off := 1927) (tgt := 1960) hx hb dL_law_33 (by decide) (by decide) (by decide) (by decide) ?_
        exact lc_step l C0 hL hAe hK hG h8 hT hTM hR hkp ht1 ht2 ht3 htA htK hcN hsN hP hD hS hl nxt
      · refine lv_tableIn (off := 1940) (tgt := 1973) hx hb dL_law_33 (by decide) (by decide) (by decide) (by decide) ?_
        exact lc_under l C0 hL hAe hK hG h8 hT hTM hR hkp ht1 ht2 ht3 htA htK hcN hsN hP hD hS hl nxt
      · refine lv_tableIn (off := 1963) (tgt := 1996) hx hb dL_law_33 (by decide) (by decide) (by decide) (by decide) ?_
        exact lc_image l C0 hL hAe hK hG h8 hT hTM hR hkp ht1 ht2 ht3 htA htK hcN hsN hP hD hS hl nxt
      · refine lv_tableIn (off := 1976) (tgt := 2009) hx hb dL_law_33 (by decide) (by decide) (by decide) (by decide) ?_
        exact lc_back l C0 hL hAe hK hG h8 hT hTM hR hkp ht1 ht2 ht3 htA htK hcN hsN hP hD hS hl nxt
      · refine lv_tableIn (off := 1989) (tgt := 2022) hx hb dL_law_33 (by decide) (by decide) (by decide) (by decide) ?_
        exact lc_status l C0 hL hAe hK hG h8 hT hTM hR hkp ht1 ht2 ht3 htA htK hcN hsN hP hD hS hl nxt
      · refine lv_tableOut (tgt := 2045) hx hb dL_law_33 (Or.inr (by rw [nI_toInt (by omega)]; omega)) (by decide) ?_
        exact nxt ma C M n cN sN H locs ls hT hTM hR hkp ht1 ht2 ht3 htA htK hcN hsN hP hD hS hl
    · refine lv_icmp_gt (tgt := 2051) hx hb dL_law_24 (by decide) (fun _ => ?_) (fun c => absurd ((lw_cmp hL hiL).mpr h8) c)
      refine lv_iconst (v := 1) hx hb dL_law_2051 (by decide) ?_
      refine va_forget (fun q hq => by have h := hS.2.2 q hq; rw [hAe] at h; exact h) ?_
      refine W.widen (k := 600000) (n := 7302250) (by omega) (by omega) ?_
      exact lw_ret hx hb hr hlocks dL_law_2052
theorem ph_inn {gs : List Nat} {l ws : List Cond} (h : ph_pick gs l = ws) : ∀ w ∈ ws, w ∈ l := fun w hw => ph_mem gs l w (h ▸ hw)
set_option maxRecDepth 100000 in
set_option maxHeartbeats 4000000 in
theorem lw_sc0 : ∀ x ∈ ([Cond.exactly (Term.string "OneHeavyLoad$Reader" 61) "java/lang/String", Cond.eq (.field (Term.string "OneHeavyLoad$Reader" 61) "java/lang/String" "coder" "B") (.int 0), Cond.arrayOf (.field (Term.string "OneHeavyLoad$Reader" 61) "java/lang/String" "value" "[B") .byte, Cond.eq (.length (.field (Term.string "OneHeavyLoad$Reader" 61) "java/lang/String" "value" "[B")) (.int (Int32.ofNat 4)), Cond.eq (.elem (.field (Term.string "OneHeavyLoad$Reader" 61) "java/lang/String" "value" "[B") (.int (Int32.ofNat 0))) (.int 114), Cond.eq (.elem (.field (Term.string "OneHeavyLoad$Reader" 61) "java/lang/String" "value" "[B") (.int (Int32.ofNat 1))) (.int 111), Cond.eq (.elem (.field (Term.string "OneHeavyLoad$Reader" 61) "java/lang/String" "value" "[B") (.int (Int32.ofNat 2))) (.int 97), Cond.eq (.elem (.field (Term.string "OneHeavyLoad$Reader" 61) "java/lang/String" "value" "[B") (.int (Int32.ofNat 3))) (.int 100), Cond.exactly (Term.string "OneHeavyLoad$Reader" 117) "java/lang/String", Cond.eq (.field (Term.string "OneHeavyLoad$Reader" 117) "java/lang/String" "coder" "B") (.int 0), Cond.arrayOf (.field (Term.string "OneHeavyLoad$Reader" 117) "java/lang/String" "value" "[B") .byte, Cond.eq (.length (.field (Term.string "OneHeavyLoad$Reader" 117) "java/lang/String" "value" "[B")) (.int (Int32.ofNat 5)), Cond.eq (.elem (.field (Term.string "OneHeavyLoad$Reader" 117) "java/lang/String" "value" "[B") (.int (Int32.ofNat 0))) (.int 109), Cond.eq (.elem (.field (Term.string "OneHeavyLoad$Reader" 117) "java/lang/String" "value" "[B") (.int (Int32.ofNat 1))) (.int 105), Cond.eq (.elem (.field (Term.string "OneHeavyLoad$Reader" 117) "java/lang/String" "value" "[B") (.int (Int32.ofNat 2))) (.int 108), Cond.eq (.elem (.field (Term.string "OneHeavyLoad$Reader" 117) "java/lang/String" "value" "[B") (.int (Int32.ofNat 3))) (.int 101), Cond.eq (.elem (.field (Term.string "OneHeavyLoad$Reader" 117) "java/lang/String" "value" "[B") (.int (Int32.ofNat 4))) (.int 115), Cond.exactly (Term.string "OneHeavyLoad$Reader" 123) "java/lang/String", Cond.eq (.field (Term.string "OneHeavyLoad$Reader" 123) "java/lang/String" "coder" "B") (.int 0), Cond.arrayOf (.field (Term.string "OneHeavyLoad$Reader" 123) "java/lang/String" "value" "[B") .byte, Cond.eq (.length (.field (Term.string "OneHeavyLoad$Reader" 123) "java/lang/String" "value" "[B")) (.int (Int32.ofNat 4)), Cond.eq (.elem (.field (Term.string "OneHeavyLoad$Reader" 123) "java/lang/String" "value" "[B") (.int (Int32.ofNat 0))) (.int 114), Cond.eq (.elem (.field (Term.string "OneHeavyLoad$Reader" 123) "java/lang/String" "value" "[B") (.int (Int32.ofNat 1))) (.int 105), Cond.eq (.elem (.field (Term.string "OneHeavyLoad$Reader" 123) "java/lang/String" "value" "[B") (.int (Int32.ofNat 2))) (.int 115), Cond.eq (.elem (.field (Term.string "OneHeavyLoad$Reader" 123) "java/lang/String" "value" "[B") (.int (Int32.ofNat 3))) (.int 101), Cond.exactly (Term.string "OneHeavyLoad$Reader" 129) "java/lang/String", Cond.eq (.field (Term.string "OneHeavyLoad$Reader" 129) "java/lang/String" "coder" "B") (.int 0), Cond.arrayOf (.field (Term.string "OneHeavyLoad$Reader" 129) "java/lang/String" "value" "[B") .byte, Cond.eq (.length (.field (Term.string "OneHeavyLoad$Reader" 129) "java/lang/String" "value" "[B")) (.int (Int32.ofNat 4)), Cond.eq (.elem (.field (Term.string "OneHeavyLoad$Reader" 129) "java/lang/String" "value" "[B") (.int (Int32.ofNat 0))) (.int 116), Cond.eq (.elem (.field (Term.string "OneHeavyLoad$Reader" 129) "java/lang/String" "value" "[B") (.int (Int32.ofNat 1))) (.int 117), Cond.eq (.elem (.field (Term.string "OneHeavyLoad$Reader" 129) "java/lang/String" "value" "[B") (.int (Int32.ofNat 2))) (.int 114), Cond.eq (.elem (.field (Term.string "OneHeavyLoad$Reader" 129) "java/lang/String" "value" "[B") (.int (Int32.ofNat 3))) (.int 110), Cond.exactly (Term.string "OneHeavyLoad$Reader" 131) "java/lang/String", Cond.eq (.field (Term.string "OneHeavyLoad$Reader" 131) "java/lang/String" "coder" "B") (.int 0), Cond.arrayOf (.field (Term.string "OneHeavyLoad$Reader" 131) "java/lang/String" "value" "[B") .byte, Cond.eq (.length (.field (Term.string "OneHeavyLoad$Reader" 131) "java/lang/String" "value" "[B")) (.int (Int32.ofNat 6)), Cond.eq (.elem (.field (Term.string "OneHeavyLoad$Reader" 131) "java/lang/String" "value" "[B") (.int (Int32.ofNat 0))) (.int 112), Cond.eq (.elem (.field (Term.string "OneHeavyLoad$Reader" 131) "java/lang/String" "value" "[B") (.int (Int32.ofNat 1))) (.int 97), Cond.eq (.elem (.field (Term.string "OneHeavyLoad$Reader" 131) "java/lang/String" "value" "[B") (.int (Int32.ofNat 2))) (.int 114), Cond.eq (.elem (.field (Term.string "OneHeavyLoad$Reader" 131) "java/lang/String" "value" "[B") (.int (Int32.ofNat 3))) (.int 105), Cond.eq (.elem (.field (Term.string "OneHeavyLoad$Reader" 131) "java/lang/String" "value" "[B") (.int (Int32.ofNat 4))) (.int 115), Cond.eq (.elem (.field (Term.string "OneHeavyLoad$Reader" 131) "java/lang/String" "value" "[B") (.int (Int32.ofNat 5))) (.int 104), Cond.exactly (Term.string "OneHeavyLoad$Reader" 70) "java/lang/String", Cond.eq (.field (Term.string "OneHeavyLoad$Reader" 70) "java/lang/String" "coder" "B") (.int 0), Cond.arrayOf (.field (Term.string "OneHeavyLoad$Reader" 70) "java/lang/String" "value" "[B") .byte, Cond.eq (.length (.field (Term.string "OneHeavyLoad$Reader" 70) "java/lang/String" "value" "[B")) (.int (Int32.ofNat 6)), Cond.eq (.elem (.field (Term.string "OneHeavyLoad$Reader" 70) "java/lang/String" "value" "[B") (.int (Int32.ofNat 0))) (.int 98), Cond.eq (.elem (.field (Term.string "OneHeavyLoad$Reader" 70) "java/lang/String" "value" "[B") (.int (Int32.ofNat 1))) (.int 114), Cond.eq (.elem (.field (Term.string "OneHeavyLoad$Reader" 70) "java/lang/String" "value" "[B") (.int (Int32.ofNat 2))) (.int 105), Cond.eq (.elem (.field (Term.string "OneHeavyLoad$Reader" 70) "java/lang/String" "value" "[B") (.int (Int32.ofNat 3))) (.int 100), Cond.eq (.elem (.field (Term.string "OneHeavyLoad$Reader" 70) "java/lang/String" "value" "[B") (.int (Int32.ofNat 4))) (.int 103), Cond.eq (.elem (.field (Term.string "OneHeavyLoad$Reader" 70) "java/lang/String" "value" "[B") (.int (Int32.ofNat 5))) (.int 101), Cond.exactly (Term.string "OneHeavyLoad$Reader" 137) "java/lang/String", Cond.eq (.field (Term.string "OneHeavyLoad$Reader" 137) "java/lang/String" "coder" "B") (.int 0), Cond.arrayOf (.field (Term.string "OneHeavyLoad$Reader" 137) "java/lang/String" "value" "[B") .byte, Cond.eq (.length (.field (Term.string "OneHeavyLoad$Reader" 137) "java/lang/String" "value" "[B")) (.int (Int32.ofNat 4)), Cond.eq (.elem (.field (Term.string "OneHeavyLoad$Reader" 137) "java/lang/String" "value" "[B") (.int (Int32.ofNat 0))) (.int 107), Cond.eq (.elem (.field (Term.string "OneHeavyLoad$Reader" 137) "java/lang/String" "value" "[B") (.int (Int32.ofNat 1))) (.int 105), Cond.eq (.elem (.field (Term.string "OneHeavyLoad$Reader" 137) "java/lang/String" "value" "[B") (.int (Int32.ofNat 2))) (.int 110)] : List Cond), x ∈ flatC (Jvm.Cond.and given_1 narrow_1) := ph_inn (gs := [31, 0, 0, 0, 0, 0, 0, 0, 0, 0, 0, 0, 0, 0, 0, 0, 0, 0, 0, 0, 0, 0, 0, 0, 0, 0, 0, 0, 0, 0, 0, 0, 0, 0, 0, 0, 0, 0, 0, 0, 0, 0, 0, 0, 0, 0, 0, 0, 0, 0, 0, 0, 0, 0, 0, 0, 0, 0, 0, 0]) (by decide +kernel)
set_option maxRecDepth 100000 in
set_option maxHeartbeats 4000000 in
theorem lw_sc1 : ∀ x ∈ ([Cond.eq (.elem (.field (Term.string "OneHeavyLoad$Reader" 137) "java/lang/String" "value" "[B") (.int (Int32.ofNat 3))) (.int 100), Cond.exactly (Term.string "OneHeavyLoad$Reader" 139) "java/lang/String", Cond.eq (.field (Term.string "OneHeavyLoad$Reader" 139) "java/lang/String" "coder" "B") (.int 0), Cond.arrayOf (.field (Term.string "OneHeavyLoad$Reader" 139) "java/lang/String" "value" "[B") .byte, Cond.eq (.length (.field (Term.string "OneHeavyLoad$Reader" 139) "java/lang/String" "value" "[B")) (.int (Int32.ofNat 4)), Cond.eq (.elem (.field (Term.string "OneHeavyLoad$Reader" 139) "java/lang/String" "value" "[B") (.int (Int32.ofNat 0))) (.int 115), Cond.eq (.elem (.field (Term.string "OneHeavyLoad$Reader" 139) "java/lang/String" "value" "[B") (.int (Int32.ofNat 1))) (.int 112), Cond.eq (.elem (.field (Term.string "OneHeavyLoad$Reader" 139) "java/lang/String" "value" "[B") (.int (Int32.ofNat 2))) (.int 97), Cond.eq (.elem (.field (Term.string "OneHeavyLoad$Reader" 139) "java/lang/String" "value" "[B") (.int (Int32.ofNat 3))) (.int 110), Cond.exactly (Term.string "OneHeavyLoad$Reader" 141) "java/lang/String", Cond.eq (.field (Term.string "OneHeavyLoad$Reader" 141) "java/lang/String" "coder" "B") (.int 0), Cond.arrayOf (.field (Term.string "OneHeavyLoad$Reader" 141) "java/lang/String" "value" "[B") .byte, Cond.eq (.length (.field (Term.string "OneHeavyLoad$Reader" 141) "java/lang/String" "value" "[B")) (.int (Int32.ofNat 4)), Cond.eq (.elem (.field (Term.string "OneHeavyLoad$Reader" 141) "java/lang/String" "value" "[B") (.int (Int32.ofNat 0))) (.int 97), Cond.eq (.elem (.field (Term.string "OneHeavyLoad$Reader" 141) "java/lang/String" "value" "[B") (.int (Int32.ofNat 1))) (.int 120), Cond.eq (.elem (.field (Term.string "OneHeavyLoad$Reader" 141) "java/lang/String" "value" "[B") (.int (Int32.ofNat 2))) (.int 108), Cond.eq (.elem (.field (Term.string "OneHeavyLoad$Reader" 141) "java/lang/String" "value" "[B") (.int (Int32.ofNat 3))) (.int 101), Cond.exactly (Term.string "OneHeavyLoad$Reader" 143) "java/lang/String", Cond.eq (.field (Term.string "OneHeavyLoad$Reader" 143) "java/lang/String" "coder" "B") (.int 0), Cond.arrayOf (.field (Term.string "OneHeavyLoad$Reader" 143) "java/lang/String" "value" "[B") .byte, Cond.eq (.length (.field (Term.string "OneHeavyLoad$Reader" 143) "java/lang/String" "value" "[B")) (.int (Int32.ofNat 3)), Cond.eq (.elem (.field (Term.string "OneHeavyLoad$Reader" 143) "java/lang/String" "value" "[B") (.int (Int32.ofNat 0))) (.int 97), Cond.eq (.elem (.field (Term.string "OneHeavyLoad$Reader" 143) "java/lang/String" "value" "[B") (.int (Int32.ofNat 1))) (.int 108), Cond.eq (.elem (.field (Term.string "OneHeavyLoad$Reader" 143) "java/lang/String" "value" "[B") (.int (Int32.ofNat 2))) (.int 108), Cond.exactly (Term.string "OneHeavyLoad$Reader" 145) "java/lang/String", Cond.eq (.field (Term.string "OneHeavyLoad$Reader" 145) "java/lang/String" "coder" "B") (.int 0), Cond.arrayOf (.field (Term.string "OneHeavyLoad$Reader" 145) "java/lang/String" "value" "[B") .byte, Cond.eq (.length (.field (Term.string "OneHeavyLoad$Reader" 145) "java/lang/String" "value" "[B")) (.int (Int32.ofNat 4)), Cond.eq (.elem (.field (Term.string "OneHeavyLoad$Reader" 145) "java/lang/String" "value" "[B") (.int (Int32.ofNat 0))) (.int 112), Cond.eq (.elem (.field (Term.string "OneHeavyLoad$Reader" 145) "java/lang/String" "value" "[B") (.int (Int32.ofNat 1))) (.int 114), Cond.eq (.elem (.field (Term.string "OneHeavyLoad$Reader" 145) "java/lang/String" "value" "[B") (.int (Int32.ofNat 2))) (.int 111), Cond.eq (.elem (.field (Term.string "OneHeavyLoad$Reader" 145) "java/lang/String" "value" "[B") (.int (Int32.ofNat 3))) (.int 112), Cond.exactly (Term.string "OneHeavyLoad$Reader" 75) "java/lang/String", Cond.eq (.field (Term.string "OneHeavyLoad$Reader" 75) "java/lang/String" "coder" "B") (.int 0), Cond.arrayOf (.field (Term.string "OneHeavyLoad$Reader" 75) "java/lang/String" "value" "[B") .byte, Cond.eq (.length (.field (Term.string "OneHeavyLoad$Reader" 75) "java/lang/String" "value" "[B")) (.int (Int32.ofNat 6)), Cond.eq (.elem (.field (Term.string "OneHeavyLoad$Reader" 75) "java/lang/String" "value" "[B") (.int (Int32.ofNat 0))) (.int 119), Cond.eq (.elem (.field (Term.string "OneHeavyLoad$Reader" 75) "java/lang/String" "value" "[B") (.int (Int32.ofNat 1))) (.int 97), Cond.eq (.elem (.field (Term.string "OneHeavyLoad$Reader" 75) "java/lang/String" "value" "[B") (.int (Int32.ofNat 2))) (.int 103), Cond.eq (.elem (.field (Term.string "OneHeavyLoad$Reader" 75) "java/lang/String" "value" "[B") (.int (Int32.ofNat 3))) (.int 103), Cond.eq (.elem (.field (Term.string "OneHeavyLoad$Reader" 75) "java/lang/String" "value" "[B") (.int (Int32.ofNat 4))) (.int 111), Cond.eq (.elem (.field (Term.string "OneHeavyLoad$Reader" 75) "java/lang/String" "value" "[B") (.int (Int32.ofNat 5))) (.int 110), Cond.exactly (Term.string "OneHeavyLoad$Reader" 155) "java/lang/String", Cond.eq (.field (Term.string "OneHeavyLoad$Reader" 155) "java/lang/String" "coder" "B") (.int 0), Cond.arrayOf (.field (Term.string "OneHeavyLoad$Reader" 155) "java/lang/String" "value" "[B") .byte, Cond.eq (.length (.field (Term.string "OneHeavyLoad$Reader" 155) "java/lang/String" "value" "[B")) (.int (Int32.ofNat 5)), Cond.eq (.elem (.field (Term.string "OneHeavyLoad$Reader" 155) "java/lang/String" "value" "[B") (.int (Int32.ofNat 0))) (.int 115), Cond.eq (.elem (.field (Term.string "OneHeavyLoad$Reader" 155) "java/lang/String" "value" "[B") (.int (Int32.ofNat 1))) (.int 112), Cond.eq (.elem (.field (Term.string "OneHeavyLoad$Reader" 155) "java/lang/String" "value" "[B") (.int (Int32.ofNat 2))) (.int 97), Cond.eq (.elem (.field (Term.string "OneHeavyLoad$Reader" 155) "java/lang/String" "value" "[B") (.int (Int32.ofNat 3))) (.int 99), Cond.eq (.elem (.field (Term.string "OneHeavyLoad$Reader" 155) "java/lang/String" "value" "[B") (.int (Int32.ofNat 4))) (.int 101), Cond.exactly (Term.string "OneHeavyLoad$Reader" 157) "java/lang/String", Cond.eq (.field (Term.string "OneHeavyLoad$Reader" 157) "java/lang/String" "coder" "B") (.int 0), Cond.arrayOf (.field (Term.string "OneHeavyLoad$Reader" 157) "java/lang/String" "value" "[B") .byte, Cond.eq (.length (.field (Term.string "OneHeavyLoad$Reader" 157) "java/lang/String" "value" "[B")) (.int (Int32.ofNat 4)), Cond.eq (.elem (.field (Term.string "OneHeavyLoad$Reader" 157) "java/lang/String" "value" "[B") (.int (Int32.ofNat 0))) (.int 116), Cond.eq (.elem (.field (Term.string "OneHeavyLoad$Reader" 157) "java/lang/String" "value" "[B") (.int (Int32.ofNat 1))) (.int 97), Cond.eq (.elem (.field (Term.string "OneHeavyLoad$Reader" 157) "java/lang/String" "value" "[B") (.int (Int32.ofNat 2))) (.int 114), Cond.eq (.elem (.field (Term.string "OneHeavyLoad$Reader" 157) "java/lang/String" "value" "[B") (.int (Int32.ofNat 3))) (.int 101), Cond.exactly (Term.string "OneHeavyLoad$Reader" 80) "java/lang/String"] : List Cond), x ∈ flatC (Jvm.Cond.and given_1 narrow_1) := ph_inn (gs := [91, 0, 0, 0, 0, 0, 0, 0, 0, 0, 0, 0, 0, 0, 0, 0, 0, 0, 0, 0, 0, 0, 0, 0, 0, 0, 0, 0, 0, 0, 0, 0, 0, 0, 0, 0, 0, 0, 0, 0, 0, 0, 0, 0, 0, 0, 0, 0, 0, 0, 0, 0, 0, 0, 0, 0, 0, 0, 0, 0]) (by decide +kernel)
set_option maxRecDepth 100000 in
set_option maxHeartbeats 4000000 in
theorem lw_sc2 : ∀ x ∈ ([Cond.eq (.field (Term.string "OneHeavyLoad$Reader" 80) "java/lang/String" "coder" "B") (.int 0), Cond.arrayOf (.field (Term.string "OneHeavyLoad$Reader" 80) "java/lang/String" "value" "[B") .byte, Cond.eq (.length (.field (Term.string "OneHeavyLoad$Reader" 80) "java/lang/String" "value" "[B")) (.int (Int32.ofNat 4)), Cond.eq (.elem (.field (Term.string "OneHeavyLoad$Reader" 80) "java/lang/String" "value" "[B") (.int (Int32.ofNat 0))) (.int 112), Cond.eq (.elem (.field (Term.string "OneHeavyLoad$Reader" 80) "java/lang/String" "value" "[B") (.int (Int32.ofNat 1))) (.int 97), Cond.eq (.elem (.field (Term.string "OneHeavyLoad$Reader" 80) "java/lang/String" "value" "[B") (.int (Int32.ofNat 2))) (.int 114), Cond.eq (.elem (.field (Term.string "OneHeavyLoad$Reader" 80) "java/lang/String" "value" "[B") (.int (Int32.ofNat 3))) (.int 116), Cond.exactly (Term.string "OneHeavyLoad$Reader" 85) "java/lang/String", Cond.eq (.field (Term.string "OneHeavyLoad$Reader" 85) "java/lang/String" "coder" "B") (.int 0), Cond.arrayOf (.field (Term.string "OneHeavyLoad$Reader" 85) "java/lang/String" "value" "[B") .byte, Cond.eq (.length (.field (Term.string "OneHeavyLoad$Reader" 85) "java/lang/String" "value" "[B")) (.int (Int32.ofNat 4)), Cond.eq (.elem (.field (Term.string "OneHeavyLoad$Reader" 85) "java/lang/String" "value" "[B") (.int (Int32.ofNat 0))) (.int 108), Cond.eq (.elem (.field (Term.string "OneHeavyLoad$Reader" 85) "java/lang/String" "value" "[B") (.int (Int32.ofNat 1))) (.int 111), Cond.eq (.elem (.field (Term.string "OneHeavyLoad$Reader" 85) "java/lang/String" "value" "[B") (.int (Int32.ofNat 2))) (.int 97), Cond.eq (.elem (.field (Term.string "OneHeavyLoad$Reader" 85) "java/lang/String" "value" "[B") (.int (Int32.ofNat 3))) (.int 100), Cond.exactly (Term.string "OneHeavyLoad$Reader" 94) "java/lang/String", Cond.eq (.field (Term.string "OneHeavyLoad$Reader" 94) "java/lang/String" "coder" "B") (.int 0), Cond.arrayOf (.field (Term.string "OneHeavyLoad$Reader" 94) "java/lang/String" "value" "[B") .byte, Cond.eq (.length (.field (Term.string "OneHeavyLoad$Reader" 94) "java/lang/String" "value" "[B")) (.int (Int32.ofNat 4)), Cond.eq (.elem (.field (Term.string "OneHeavyLoad$Reader" 94) "java/lang/String" "value" "[B") (.int (Int32.ofNat 0))) (.int 109), Cond.eq (.elem (.field (Term.string "OneHeavyLoad$Reader" 94) "java/lang/String" "value" "[B") (.int (Int32.ofNat 1))) (.int 105), Cond.eq (.elem (.field (Term.string "OneHeavyLoad$Reader" 94) "java/lang/String" "value" "[B") (.int (Int32.ofNat 2))) (.int 108), Cond.eq (.elem (.field (Term.string "OneHeavyLoad$Reader" 94) "java/lang/String" "value" "[B") (.int (Int32.ofNat 3))) (.int 101), Cond.exactly (Term.string "OneHeavyLoadModel" 200) "java/lang/String", Cond.eq (.field (Term.string "OneHeavyLoadModel" 200) "java/lang/String" "coder" "B") (.int 0), Cond.arrayOf (.field (Term.string "OneHeavyLoadModel" 200) "java/lang/String" "value" "[B") .byte, Cond.eq (.length (.field (Term.string "OneHeavyLoadModel" 200) "java/lang/String" "value" "[B")) (.int (Int32.ofNat 4)), Cond.eq (.elem (.field (Term.string "OneHeavyLoadModel" 200) "java/lang/String" "value" "[B") (.int (Int32.ofNat 0))) (.int 114), Cond.eq (.elem (.field (Term.string "OneHeavyLoadModel" 200) "java/lang/String" "value" "[B") (.int (Int32.ofNat 1))) (.int 111), Cond.eq (.elem (.field (Term.string "OneHeavyLoadModel" 200) "java/lang/String" "value" "[B") (.int (Int32.ofNat 2))) (.int 97), Cond.eq (.elem (.field (Term.string "OneHeavyLoadModel" 200) "java/lang/String" "value" "[B") (.int (Int32.ofNat 3))) (.int 100), Cond.exactly (Term.string "OneHeavyLoadModel" 219) "java/lang/String", Cond.eq (.field (Term.string "OneHeavyLoadModel" 219) "java/lang/String" "coder" "B") (.int 0), Cond.arrayOf (.field (Term.string "OneHeavyLoadModel" 219) "java/lang/String" "value" "[B") .byte, Cond.eq (.length (.field (Term.string "OneHeavyLoadModel" 219) "java/lang/String" "value" "[B")) (.int (Int32.ofNat 5)), Cond.eq (.elem (.field (Term.string "OneHeavyLoadModel" 219) "java/lang/String" "value" "[B") (.int (Int32.ofNat 0))) (.int 109), Cond.eq (.elem (.field (Term.string "OneHeavyLoadModel" 219) "java/lang/String" "value" "[B") (.int (Int32.ofNat 1))) (.int 105), Cond.eq (.elem (.field (Term.string "OneHeavyLoadModel" 219) "java/lang/String" "value" "[B") (.int (Int32.ofNat 2))) (.int 108), Cond.eq (.elem (.field (Term.string "OneHeavyLoadModel" 219) "java/lang/String" "value" "[B") (.int (Int32.ofNat 3))) (.int 101), Cond.eq (.elem (.field (Term.string "OneHeavyLoadModel" 219) "java/lang/String" "value" "[B") (.int (Int32.ofNat 4))) (.int 115), Cond.exactly (Term.string "OneHeavyLoadModel" 221) "java/lang/String", Cond.eq (.field (Term.string "OneHeavyLoadModel" 221) "java/lang/String" "coder" "B") (.int 0), Cond.arrayOf (.field (Term.string "OneHeavyLoadModel" 221) "java/lang/String" "value" "[B") .byte, Cond.eq (.length (.field (Term.string "OneHeavyLoadModel" 221) "java/lang/String" "value" "[B")) (.int (Int32.ofNat 4)), Cond.eq (.elem (.field (Term.string "OneHeavyLoadModel" 221) "java/lang/String" "value" "[B") (.int (Int32.ofNat 0))) (.int 114), Cond.eq (.elem (.field (Term.string "OneHeavyLoadModel" 221) "java/lang/String" "value" "[B") (.int (Int32.ofNat 1))) (.int 105), Cond.eq (.elem (.field (Term.string "OneHeavyLoadModel" 221) "java/lang/String" "value" "[B") (.int (Int32.ofNat 2))) (.int 115), Cond.eq (.elem (.field (Term.string "OneHeavyLoadModel" 221) "java/lang/String" "value" "[B") (.int (Int32.ofNat 3))) (.int 101), Cond.exactly (Term.string "OneHeavyLoadModel" 226) "java/lang/String", Cond.eq (.field (Term.string "OneHeavyLoadModel" 226) "java/lang/String" "coder" "B") (.int 0), Cond.arrayOf (.field (Term.string "OneHeavyLoadModel" 226) "java/lang/String" "value" "[B") .byte, Cond.eq (.length (.field (Term.string "OneHeavyLoadModel" 226) "java/lang/String" "value" "[B")) (.int (Int32.ofNat 4)), Cond.eq (.elem (.field (Term.string "OneHeavyLoadModel" 226) "java/lang/String" "value" "[B") (.int (Int32.ofNat 0))) (.int 116), Cond.eq (.elem (.field (Term.string "OneHeavyLoadModel" 226) "java/lang/String" "value" "[B") (.int (Int32.ofNat 1))) (.int 117), Cond.eq (.elem (.field (Term.string "OneHeavyLoadModel" 226) "java/lang/String" "value" "[B") (.int (Int32.ofNat 2))) (.int 114), Cond.eq (.elem (.field (Term.string "OneHeavyLoadModel" 226) "java/lang/String" "value" "[B") (.int (Int32.ofNat 3))) (.int 110), Cond.exactly (Term.string "OneHeavyLoadModel" 228) "java/lang/String", Cond.eq (.field (Term.string "OneHeavyLoadModel" 228) "java/lang/String" "coder" "B") (.int 0), Cond.arrayOf (.field (Term.string "OneHeavyLoadModel" 228) "java/lang/String" "value" "[B") .byte, Cond.eq (.length (.field (Term.string "OneHeavyLoadModel" 228) "java/lang/String" "value" "[B")) (.int (Int32.ofNat 6))] : List Cond), x ∈ flatC (Jvm.Cond.and given_1 narrow_1) := ph_inn (gs := [151, 0, 0, 0, 0, 0, 0, 0, 0, 0, 0, 0, 0, 0, 0, 0, 0, 0, 0, 0, 0, 0, 0, 0, 0, 0, 0, 0, 0, 0, 0, 1, 0, 0, 0, 0, 0, 0, 0, 0, 1, 0, 0, 0, 0, 0, 0, 0, 1, 0, 0, 0, 0, 0, 0, 0, 1, 0, 0, 0]) (by decide +kernel)
set_option maxRecDepth 100000 in
set_option maxHeartbeats 4000000 in
theorem lw_sc3 : ∀ x ∈ ([Cond.eq (.elem (.field (Term.string "OneHeavyLoadModel" 228) "java/lang/String" "value" "[B") (.int (Int32.ofNat 0))) (.int 112), Cond.eq (.elem (.field (Term.string "OneHeavyLoadModel" 228) "java/lang/String" "value" "[B") (.int (Int32.ofNat 1))) (.int 97), Cond.eq (.elem (.field (Term.string "OneHeavyLoadModel" 228) "java/lang/String" "value" "[B") (.int (Int32.ofNat 2))) (.int 114), Cond.eq (.elem (.field (Term.string "OneHeavyLoadModel" 228) "java/lang/String" "value" "[B") (.int (Int32.ofNat 3))) (.int 105), Cond.eq (.elem (.field (Term.string "OneHeavyLoadModel" 228) "java/lang/String" "value" "[B") (.int (Int32.ofNat 4))) (.int 115), Cond.eq (.elem (.field (Term.string "OneHeavyLoadModel" 228) "java/lang/String" "value" "[B") (.int (Int32.ofNat 5))) (.int 104), Cond.exactly (Term.string "OneHeavyLoadModel" 205) "java/lang/String", Cond.eq (.field (Term.string "OneHeavyLoadModel" 205) "java/lang/String" "coder" "B") (.int 0), Cond.arrayOf (.field (Term.string "OneHeavyLoadModel" 205) "java/lang/String" "value" "[B") .byte, Cond.eq (.length (.field (Term.string "OneHeavyLoadModel" 205) "java/lang/String" "value" "[B")) (.int (Int32.ofNat 6)), Cond.eq (.elem (.field (Term.string "OneHeavyLoadModel" 205) "java/lang/String" "value" "[B") (.int (Int32.ofNat 0))) (.int 98), Cond.eq (.elem (.field (Term.string "OneHeavyLoadModel" 205) "java/lang/String" "value" "[B") (.int (Int32.ofNat 1))) (.int 114), Cond.eq (.elem (.field (Term.string "OneHeavyLoadModel" 205) "java/lang/String" "value" "[B") (.int (Int32.ofNat 2))) (.int 105), Cond.eq (.elem (.field (Term.string "OneHeavyLoadModel" 205) "java/lang/String" "value" "[B") (.int (Int32.ofNat 3))) (.int 100), Cond.eq (.elem (.field (Term.string "OneHeavyLoadModel" 205) "java/lang/String" "value" "[B") (.int (Int32.ofNat 4))) (.int 103), Cond.eq (.elem (.field (Term.string "OneHeavyLoadModel" 205) "java/lang/String" "value" "[B") (.int (Int32.ofNat 5))) (.int 101), Cond.exactly (Term.string "OneHeavyLoadModel" 230) "java/lang/String", Cond.eq (.field (Term.string "OneHeavyLoadModel" 230) "java/lang/String" "coder" "B") (.int 0), Cond.arrayOf (.field (Term.string "OneHeavyLoadModel" 230) "java/lang/String" "value" "[B") .byte, Cond.eq (.length (.field (Term.string "OneHeavyLoadModel" 230) "java/lang/String" "value" "[B")) (.int (Int32.ofNat 4)), Cond.eq (.elem (.field (Term.string "OneHeavyLoadModel" 230) "java/lang/String" "value" "[B") (.int (Int32.ofNat 0))) (.int 107), Cond.eq (.elem (.field (Term.string "OneHeavyLoadModel" 230) "java/lang/String" "value" "[B") (.int (Int32.ofNat 1))) (.int 105), Cond.eq (.elem (.field (Term.string "OneHeavyLoadModel" 230) "java/lang/String" "value" "[B") (.int (Int32.ofNat 2))) (.int 110), Cond.eq (.elem (.field (Term.string "OneHeavyLoadModel" 230) "java/lang/String" "value" "[B") (.int (Int32.ofNat 3))) (.int 100), Cond.exactly (Term.string "OneHeavyLoadModel" 232) "java/lang/String", Cond.eq (.field (Term.string "OneHeavyLoadModel" 232) "java/lang/String" "coder" "B") (.int 0), Cond.arrayOf (.field (Term.string "OneHeavyLoadModel" 232) "java/lang/String" "value" "[B") .byte, Cond.eq (.length (.field (Term.string "OneHeavyLoadModel" 232) "java/lang/String" "value" "[B")) (.int (Int32.ofNat 4)), Cond.eq (.elem (.field (Term.string "OneHeavyLoadModel" 232) "java/lang/String" "value" "[B") (.int (Int32.ofNat 0))) (.int 115), Cond.eq (.elem (.field (Term.string "OneHeavyLoadModel" 232) "java/lang/String" "value" "[B") (.int (Int32.ofNat 1))) (.int 112), Cond.eq (.elem (.field (Term.string "OneHeavyLoadModel" 232) "java/lang/String" "value" "[B") (.int (Int32.ofNat 2))) (.int 97), Cond.eq (.elem (.field (Term.string "OneHeavyLoadModel" 232) "java/lang/String" "value" "[B") (.int (Int32.ofNat 3))) (.int 110), Cond.exactly (Term.string "OneHeavyLoadModel" 234) "java/lang/String", Cond.eq (.field (Term.string "OneHeavyLoadModel" 234) "java/lang/String" "coder" "B") (.int 0), Cond.arrayOf (.field (Term.string "OneHeavyLoadModel" 234) "java/lang/String" "value" "[B") .byte, Cond.eq (.length (.field (Term.string "OneHeavyLoadModel" 234) "java/lang/String" "value" "[B")) (.int (Int32.ofNat 4)), Cond.eq (.elem (.field (Term.string "OneHeavyLoadModel" 234) "java/lang/String" "value" "[B") (.int (Int32.ofNat 0))) (.int 97), Cond.eq (.elem (.field (Term.string "OneHeavyLoadModel" 234) "java/lang/String" "value" "[B") (.int (Int32.ofNat 1))) (.int 120), Cond.eq (.elem (.field (Term.string "OneHeavyLoadModel" 234) "java/lang/String" "value" "[B") (.int (Int32.ofNat 2))) (.int 108), Cond.eq (.elem (.field (Term.string "OneHeavyLoadModel" 234) "java/lang/String" "value" "[B") (.int (Int32.ofNat 3))) (.int 101), Cond.exactly (Term.string "OneHeavyLoadModel" 236) "java/lang/String", Cond.eq (.field (Term.string "OneHeavyLoadModel" 236) "java/lang/String" "coder" "B") (.int 0), Cond.arrayOf (.field (Term.string "OneHeavyLoadModel" 236) "java/lang/String" "value" "[B") .byte, Cond.eq (.length (.field (Term.string "OneHeavyLoadModel" 236) "java/lang/String" "value" "[B")) (.int (Int32.ofNat 3)), Cond.eq (.elem (.field (Term.string "OneHeavyLoadModel" 236) "java/lang/String" "value" "[B") (.int (Int32.ofNat 0))) (.int 97), Cond.eq (.elem (.field (Term.string "OneHeavyLoadModel" 236) "java/lang/String" "value" "[B") (.int (Int32.ofNat 1))) (.int 108), Cond.eq (.elem (.field (Term.string "OneHeavyLoadModel" 236) "java/lang/String" "value" "[B") (.int (Int32.ofNat 2))) (.int 108), Cond.exactly (Term.string "OneHeavyLoadModel" 238) "java/lang/String", Cond.eq (.field (Term.string "OneHeavyLoadModel" 238) "java/lang/String" "coder" "B") (.int 0), Cond.arrayOf (.field (Term.string "OneHeavyLoadModel" 238) "java/lang/String" "value" "[B") .byte, Cond.eq (.length (.field (Term.string "OneHeavyLoadModel" 238) "java/lang/String" "value" "[B")) (.int (Int32.ofNat 4)), Cond.eq (.elem (.field (Term.string "OneHeavyLoadModel" 238) "java/lang/String" "value" "[B") (.int (Int32.ofNat 0))) (.int 112), Cond.eq (.elem (.field (Term.string "OneHeavyLoadModel" 238) "java/lang/String" "value" "[B") (.int (Int32.ofNat 1))) (.int 114), Cond.eq (.elem (.field (Term.string "OneHeavyLoadModel" 238) "java/lang/String" "value" "[B") (.int (Int32.ofNat 2))) (.int 111), Cond.eq (.elem (.field (Term.string "OneHeavyLoadModel" 238) "java/lang/String" "value" "[B") (.int (Int32.ofNat 3))) (.int 112), Cond.exactly (Term.string "OneHeavyLoadModel" 209) "java/lang/String", Cond.eq (.field (Term.string "OneHeavyLoadModel" 209) "java/lang/String" "coder" "B") (.int 0), Cond.arrayOf (.field (Term.string "OneHeavyLoadModel" 209) "java/lang/String" "value" "[B") .byte, Cond.eq (.length (.field (Term.string "OneHeavyLoadModel" 209) "java/lang/String" "value" "[B")) (.int (Int32.ofNat 6)), Cond.eq (.elem (.field (Term.string "OneHeavyLoadModel" 209) "java/lang/String" "value" "[B") (.int (Int32.ofNat 0))) (.int 119)] : List Cond), x ∈ flatC (Jvm.Cond.and given_1 narrow_1) := ph_inn (gs := [215, 0, 0, 0, 0, 0, 1, 0, 0, 0, 0, 0, 0, 0, 0, 0, 1, 0, 0, 0, 0, 0, 0, 0, 1, 0, 0, 0, 0, 0, 0, 0, 1, 0, 0, 0, 0, 0, 0, 0, 1, 0, 0, 0, 0, 0, 0, 1, 0, 0, 0, 0, 0, 0, 0, 1, 0, 0, 0, 0]) (by decide +kernel)
set_option maxRecDepth 100000 in
set_option maxHeartbeats 4000000 in
theorem lw_sc4 : ∀ x ∈ ([Cond.eq (.elem (.field (Term.string "OneHeavyLoadModel" 209) "java/lang/String" "value" "[B") (.int (Int32.ofNat 1))) (.int 97), Cond.eq (.elem (.field (Term.string "OneHeavyLoadModel" 209) "java/lang/String" "value" "[B") (.int (Int32.ofNat 2))) (.int 103), Cond.eq (.elem (.field (Term.string "OneHeavyLoadModel" 209) "java/lang/String" "value" "[B") (.int (Int32.ofNat 3))) (.int 103), Cond.eq (.elem (.field (Term.string "OneHeavyLoadModel" 209) "java/lang/String" "value" "[B") (.int (Int32.ofNat 4))) (.int 111), Cond.eq (.elem (.field (Term.string "OneHeavyLoadModel" 209) "java/lang/String" "value" "[B") (.int (Int32.ofNat 5))) (.int 110), Cond.exactly (Term.string "OneHeavyLoadModel" 210) "java/lang/String", Cond.eq (.field (Term.string "OneHeavyLoadModel" 210) "java/lang/String" "coder" "B") (.int 0), Cond.arrayOf (.field (Term.string "OneHeavyLoadModel" 210) "java/lang/String" "value" "[B") .byte, Cond.eq (.length (.field (Term.string "OneHeavyLoadModel" 210) "java/lang/String" "value" "[B")) (.int (Int32.ofNat 5)), Cond.eq (.elem (.field (Term.string "OneHeavyLoadModel" 210) "java/lang/String" "value" "[B") (.int (Int32.ofNat 0))) (.int 115), Cond.eq (.elem (.field (Term.string "OneHeavyLoadModel" 210) "java/lang/String" "value" "[B") (.int (Int32.ofNat 1))) (.int 112), Cond.eq (.elem (.field (Term.string "OneHeavyLoadModel" 210) "java/lang/String" "value" "[B") (.int (Int32.ofNat 2))) (.int 97), Cond.eq (.elem (.field (Term.string "OneHeavyLoadModel" 210) "java/lang/String" "value" "[B") (.int (Int32.ofNat 3))) (.int 99), Cond.eq (.elem (.field (Term.string "OneHeavyLoadModel" 210) "java/lang/String" "value" "[B") (.int (Int32.ofNat 4))) (.int 101), Cond.exactly (Term.string "OneHeavyLoadModel" 212) "java/lang/String", Cond.eq (.field (Term.string "OneHeavyLoadModel" 212) "java/lang/String" "coder" "B") (.int 0), Cond.arrayOf (.field (Term.string "OneHeavyLoadModel" 212) "java/lang/String" "value" "[B") .byte, Cond.eq (.length (.field (Term.string "OneHeavyLoadModel" 212) "java/lang/String" "value" "[B")) (.int (Int32.ofNat 4)), Cond.eq (.elem (.field (Term.string "OneHeavyLoadModel" 212) "java/lang/String" "value" "[B") (.int (Int32.ofNat 0))) (.int 116), Cond.eq (.elem (.field (Term.string "OneHeavyLoadModel" 212) "java/lang/String" "value" "[B") (.int (Int32.ofNat 1))) (.int 97), Cond.eq (.elem (.field (Term.string "OneHeavyLoadModel" 212) "java/lang/String" "value" "[B") (.int (Int32.ofNat 2))) (.int 114), Cond.eq (.elem (.field (Term.string "OneHeavyLoadModel" 212) "java/lang/String" "value" "[B") (.int (Int32.ofNat 3))) (.int 101), Cond.exactly (Term.string "OneHeavyLoadModel" 214) "java/lang/String", Cond.eq (.field (Term.string "OneHeavyLoadModel" 214) "java/lang/String" "coder" "B") (.int 0), Cond.arrayOf (.field (Term.string "OneHeavyLoadModel" 214) "java/lang/String" "value" "[B") .byte, Cond.eq (.length (.field (Term.string "OneHeavyLoadModel" 214) "java/lang/String" "value" "[B")) (.int (Int32.ofNat 4)), Cond.eq (.elem (.field (Term.string "OneHeavyLoadModel" 214) "java/lang/String" "value" "[B") (.int (Int32.ofNat 0))) (.int 112), Cond.eq (.elem (.field (Term.string "OneHeavyLoadModel" 214) "java/lang/String" "value" "[B") (.int (Int32.ofNat 1))) (.int 97), Cond.eq (.elem (.field (Term.string "OneHeavyLoadModel" 214) "java/lang/String" "value" "[B") (.int (Int32.ofNat 2))) (.int 114), Cond.eq (.elem (.field (Term.string "OneHeavyLoadModel" 214) "java/lang/String" "value" "[B") (.int (Int32.ofNat 3))) (.int 116), Cond.exactly (Term.string "OneHeavyLoadModel" 215) "java/lang/String", Cond.eq (.field (Term.string "OneHeavyLoadModel" 215) "java/lang/String" "coder" "B") (.int 0), Cond.arrayOf (.field (Term.string "OneHeavyLoadModel" 215) "java/lang/String" "value" "[B") .byte, Cond.eq (.length (.field (Term.string "OneHeavyLoadModel" 215) "java/lang/String" "value" "[B")) (.int (Int32.ofNat 4)), Cond.eq (.elem (.field (Term.string "OneHeavyLoadModel" 215) "java/lang/String" "value" "[B") (.int (Int32.ofNat 0))) (.int 108), Cond.eq (.elem (.field (Term.string "OneHeavyLoadModel" 215) "java/lang/String" "value" "[B") (.int (Int32.ofNat 1))) (.int 111), Cond.eq (.elem (.field (Term.string "OneHeavyLoadModel" 215) "java/lang/String" "value" "[B") (.int (Int32.ofNat 2))) (.int 97), Cond.eq (.elem (.field (Term.string "OneHeavyLoadModel" 215) "java/lang/String" "value" "[B") (.int (Int32.ofNat 3))) (.int 100), Cond.exactly (Term.string "OneHeavyLoadModel" 217) "java/lang/String", Cond.eq (.field (Term.string "OneHeavyLoadModel" 217) "java/lang/String" "coder" "B") (.int 0), Cond.arrayOf (.field (Term.string "OneHeavyLoadModel" 217) "java/lang/String" "value" "[B") .byte, Cond.eq (.length (.field (Term.string "OneHeavyLoadModel" 217) "java/lang/String" "value" "[B")) (.int (Int32.ofNat 4)), Cond.eq (.elem (.field (Term.string "OneHeavyLoadModel" 217) "java/lang/String" "value" "[B") (.int (Int32.ofNat 0))) (.int 109), Cond.eq (.elem (.field (Term.string "OneHeavyLoadModel" 217) "java/lang/String" "value" "[B") (.int (Int32.ofNat 1))) (.int 105), Cond.eq (.elem (.field (Term.string "OneHeavyLoadModel" 217) "java/lang/String" "value" "[B") (.int (Int32.ofNat 2))) (.int 108), Cond.eq (.elem (.field (Term.string "OneHeavyLoadModel" 217) "java/lang/String" "value" "[B") (.int (Int32.ofNat 3))) (.int 101)] : List Cond), x ∈ flatC (Jvm.Cond.and given_1 narrow_1) := ph_inn (gs := [282, 0, 0, 0, 0, 1, 0, 0, 0, 0, 0, 0, 0, 0, 1, 0, 0, 0, 0, 0, 0, 0, 1, 0, 0, 0, 0, 0, 0, 0, 1, 0, 0, 0, 0, 0, 0, 0, 1, 0, 0, 0, 0, 0, 0, 0]) (by decide +kernel)
set_option maxHeartbeats 4000000 in
set_option maxRecDepth 100000 in
theorem lw_st0 {s : State} {b : Nat} (hs : ∀ x ∈ flatC (Jvm.Cond.and given_1 narrow_1), x.before #[Value.ref b] s = true) (hnA : ∀ a : Nat, a < s.heap.size → ¬ (fun q : Nat => s.heap.size ≤ q) a) : ∃ K V : Nat, (va_O "java/lang/String" K (fun q => s.heap.size ≤ q) s s.heap ∧ va_OF "java/lang/String" "coder" "B" (.int 0) K (fun q => s.heap.size ≤ q) s s.heap ∧ va_OF "java/lang/String" "value" "[B" (.ref V) K (fun q => s.heap.size ≤ q) s s.heap ∧ va_T .byte V (oh_len 0) (fun i => .int (oh_byt 0 i)) (fun q => s.heap.size ≤ q) s s.heap) ∧ (Term.string "OneHeavyLoad$Reader" 61).eval #[Value.ref b] s none [] s = some (.ref K) := by
  have a1 : ∀ i : Nat, i < 1 → ([4] : List Nat).getD i 0 < 2 ^ 31 := by
    intro i hi
    obtain rfl : i = 0 := by omega
    decide
  have a2 : ∀ i : Nat, i < 1 → (Cond.eq (.length (.field (.string "OneHeavyLoad$Reader" 61) "java/lang/String" "value" "[B")) (.int (Int32.ofNat (([4] : List Nat).getD i 0)))).before #[Value.ref b] s = true := by
    intro i hi
    obtain rfl : i = 0 := by omega
    exact hs _ (lw_sc0 _ (List.mem_of_getElem? (i := 3) rfl))
  have a3 : ∀ i : Nat, i < 1 → ∀ j : Nat, j < ([4] : List Nat).getD i 0 → (Cond.eq (.elem (.field (.string "OneHeavyLoad$Reader" 61) "java/lang/String" "value" "[B") (.int (Int32.ofNat j))) (.int (([[114, 111, 97, 100]] : List (List Int32)).getD i [] |>.getD j 0))).before #[Value.ref b] s = true := by
    intro i hi j hj
    obtain rfl : i = 0 := by omega
    have hj : j < 4 := hj
    rcases (show j = 0 ∨ j = 1 ∨ j = 2 ∨ j = 3 by omega) with rfl | rfl | rfl | rfl
    · exact hs _ (lw_sc0 _ (List.mem_of_getElem? (i := 4) rfl))
    · exact hs _ (lw_sc0 _ (List.mem_of_getElem? (i := 5) rfl))
    · exact hs _ (lw_sc0 _ (List.mem_of_getElem? (i := 6) rfl))
    · exact hs _ (lw_sc0 _ (List.mem_of_getElem? (i := 7) rfl))
  obtain ⟨K, V, S, u⟩ := vk_Sof (args := #[Value.ref b]) (s := s) (N := 1) (tm := fun _ => (Term.string "OneHeavyLoad$Reader" 61)) (len := [4]) (byt := [[114, 111, 97, 100]]) (A := fun q => s.heap.size ≤ q) a1 (fun i hi => hs _ (lw_sc0 _ (List.mem_of_getElem? (i := 0) rfl))) (fun i hi => hs _ (lw_sc0 _ (List.mem_of_getElem? (i := 1) rfl))) (fun i hi => hs _ (lw_sc0 _ (List.mem_of_getElem? (i := 2) rfl))) a2 a3 (fun i j hi hj hne => absurd (show i = j by omega) hne) hnA
  exact ⟨K 0, V 0, S.1 0 (by decide), u 0 (by decide)⟩
set_option maxHeartbeats 4000000 in
set_option maxRecDepth 100000 in
theorem lw_st1 {s : State} {b : Nat} (hs : ∀ x ∈ flatC (Jvm.Cond.and given_1 narrow_1), x.before #[Value.ref b] s = true) (hnA : ∀ a : Nat, a < s.heap.size → ¬ (fun q : Nat => s.heap.size ≤ q) a) : ∃ K V : Nat, (va_O "java/lang/String" K (fun q => s.heap.size ≤ q) s s.heap ∧ va_OF "java/lang/String" "coder" "B" (.int 0) K (fun q => s.heap.size ≤ q) s s.heap ∧ va_OF "java/lang/String" "value" "[B" (.ref V) K (fun q => s.heap.size ≤ q) s s.heap ∧ va_T .byte V (oh_len 1) (fun i => .int (oh_byt 1 i)) (fun q => s.heap.size ≤ q) s s.heap) ∧ (Term.string "OneHeavyLoad$Reader" 117).eval #[Value.ref b] s none [] s = some (.ref K) := by
  have a1 : ∀ i : Nat, i < 1 → ([5] : List Nat).getD i 0 < 2 ^ 31 := by
    intro i hi
    obtain rfl : i = 0 := by omega
    decide
  have a2 : ∀ i : Nat, i < 1 → (Cond.eq (.length (.field (.string "OneHeavyLoad$Reader" 117) "java/lang/String" "value" "[B")) (.int (Int32.ofNat (([5] : List Nat).getD i 0)))).before #[Value.ref b] s = true := by
    intro i hi
    obtain rfl : i = 0 := by omega
    exact hs _ (lw_sc0 _ (List.mem_of_getElem? (i := 11) rfl))
  have a3 : ∀ i : Nat, i < 1 → ∀ j : Nat, j < ([5] : List Nat).getD i 0 → (Cond.eq (.elem (.field (.string "OneHeavyLoad$Reader" 117) "java/lang/String" "value" "[B") (.int (Int32.ofNat j))) (.int (([[109, 105, 108, 101, 115]] : List (List Int32)).getD i [] |>.getD j 0))).before #[Value.ref b] s = true := by
    intro i hi j hj
    obtain rfl : i = 0 := by omega
    have hj : j < 5 := hj
    rcases (show j = 0 ∨ j = 1 ∨ j = 2 ∨ j = 3 ∨ j = 4 by omega) with rfl | rfl | rfl | rfl | rfl
    · exact hs _ (lw_sc0 _ (List.mem_of_getElem? (i := 12) rfl))
    · exact hs _ (lw_sc0 _ (List.mem_of_getElem? (i := 13) rfl))
    · exact hs _ (lw_sc0 _ (List.mem_of_getElem? (i := 14) rfl))
    · exact hs _ (lw_sc0 _ (List.mem_of_getElem? (i := 15) rfl))
    · exact hs _ (lw_sc0 _ (List.mem_of_getElem? (i := 16) rfl))
  obtain ⟨K, V, S, u⟩ := vk_Sof (args := #[Value.ref b]) (s := s) (N := 1) (tm := fun _ => (Term.string "OneHeavyLoad$Reader" 117)) (len := [5]) (byt := [[109, 105, 108, 101, 115]]) (A := fun q => s.heap.size ≤ q) a1 (fun i hi => hs _ (lw_sc0 _ (List.mem_of_getElem? (i := 8) rfl))) (fun i hi => hs _ (lw_sc0 _ (List.mem_of_getElem? (i := 9) rfl))) (fun i hi => hs _ (lw_sc0 _ (List.mem_of_getElem? (i := 10) rfl))) a2 a3 (fun i j hi hj hne => absurd (show i = j by omega) hne) hnA
  exact ⟨K 0, V 0, S.1 0 (by decide), u 0 (by decide)⟩
set_option maxHeartbeats 4000000 in
set_option maxRecDepth 100000 in
theorem lw_st2 {s : State} {b : Nat} (hs : ∀ x ∈ flatC (Jvm.Cond.and given_1 narrow_1), x.before #[Value.ref b] s = true) (hnA : ∀ a : Nat, a < s.heap.size → ¬ (fun q : Nat => s.heap.size ≤ q) a) : ∃ K V : Nat, (va_O "java/lang/String" K (fun q => s.heap.size ≤ q) s s.heap ∧ va_OF "java/lang/String" "coder" "B" (.int 0) K (fun q => s.heap.size ≤ q) s s.heap ∧ va_OF "java/lang/String" "value" "[B" (.ref V) K (fun q => s.heap.size ≤ q) s s.heap ∧ va_T .byte V (oh_len 2) (fun i => .int (oh_byt 2 i)) (fun q => s.heap.size ≤ q) s s.heap) ∧ (Term.string "OneHeavyLoad$Reader" 123).eval #[Value.ref b] s none [] s = some (.ref K) := by
  have a1 : ∀ i : Nat, i < 1 → ([4] : List Nat).getD i 0 < 2 ^ 31 := by
    intro i hi
    obtain rfl : i = 0 := by omega
    decide
  have a2 : ∀ i : Nat, i < 1 → (Cond.eq (.length (.field (.string "OneHeavyLoad$Reader" 123) "java/lang/String" "value" "[B")) (.int (Int32.ofNat (([4] : List Nat).getD i 0)))).before #[Value.ref b] s = true := by
    intro i hi
    obtain rfl : i = 0 := by omega
    exact hs _ (lw_sc0 _ (List.mem_of_getElem? (i := 20) rfl))
  have a3 : ∀ i : Nat, i < 1 → ∀ j : Nat, j < ([4] : List Nat).getD i 0 → (Cond.eq (.elem (.field (.string "OneHeavyLoad$Reader" 123) "java/lang/String" "value" "[B") (.int (Int32.ofNat j))) (.int (([[114, 105, 115, 101]] : List (List Int32)).getD i [] |>.getD j 0))).before #[Value.ref b] s = true := by
    intro i hi j hj
    obtain rfl : i = 0 := by omega
    have hj : j < 4 := hj
    rcases (show j = 0 ∨ j = 1 ∨ j = 2 ∨ j = 3 by omega) with rfl | rfl | rfl | rfl
    · exact hs _ (lw_sc0 _ (List.mem_of_getElem? (i := 21) rfl))
    · exact hs _ (lw_sc0 _ (List.mem_of_getElem? (i := 22) rfl))
    · exact hs _ (lw_sc0 _ (List.mem_of_getElem? (i := 23) rfl))
    · exact hs _ (lw_sc0 _ (List.mem_of_getElem? (i := 24) rfl))
  obtain ⟨K, V, S, u⟩ := vk_Sof (args := #[Value.ref b]) (s := s) (N := 1) (tm := fun _ => (Term.string "OneHeavyLoad$Reader" 123)) (len := [4]) (byt := [[114, 105, 115, 101]]) (A := fun q => s.heap.size ≤ q) a1 (fun i hi => hs _ (lw_sc0 _ (List.mem_of_getElem? (i := 17) rfl))) (fun i hi => hs _ (lw_sc0 _ (List.mem_of_getElem? (i := 18) rfl))) (fun i hi => hs _ (lw_sc0 _ (List.mem_of_getElem? (i := 19) rfl))) a2 a3 (fun i j hi hj hne => absurd (show i = j by omega) hne) hnA
  exact ⟨K 0, V 0, S.1 0 (by decide), u 0 (by decide)⟩
set_option maxHeartbeats 4000000 in
set_option maxRecDepth 100000 in
theorem lw_st3 {s : State} {b : Nat} (hs : ∀ x ∈ flatC (Jvm.Cond.and given_1 narrow_1), x.before #[Value.ref b] s = true) (hnA : ∀ a : Nat, a < s.heap.size → ¬ (fun q : Nat => s.heap.size ≤ q) a) : ∃ K V : Nat, (va_O "java/lang/String" K (fun q => s.heap.size ≤ q) s s.heap ∧ va_OF "java/lang/String" "coder" "B" (.int 0) K (fun q => s.heap.size ≤ q) s s.heap ∧ va_OF "java/lang/String" "value" "[B" (.ref V) K (fun q => s.heap.size ≤ q) s s.heap ∧ va_T .byte V (oh_len 3) (fun i => .int (oh_byt 3 i)) (fun q => s.heap.size ≤ q) s s.heap) ∧ (Term.string "OneHeavyLoad$Reader" 129).eval #[Value.ref b] s none [] s = some (.ref K) := by
  have a1 : ∀ i : Nat, i < 1 → ([4] : List Nat).getD i 0 < 2 ^ 31 := by
    intro i hi
    obtain rfl : i = 0 := by omega
    decide
  have a2 : ∀ i : Nat, i < 1 → (Cond.eq (.length (.field (.string "OneHeavyLoad$Reader" 129) "java/lang/String" "value" "[B")) (.int (Int32.ofNat (([4] : List Nat).getD i 0)))).before #[Value.ref b] s = true := by
    intro i hi
    obtain rfl : i = 0 := by omega
    exact hs _ (lw_sc0 _ (List.mem_of_getElem? (i := 28) rfl))
  have a3 : ∀ i : Nat, i < 1 → ∀ j : Nat, j < ([4] : List Nat).getD i 0 → (Cond.eq (.elem (.field (.string "OneHeavyLoad$Reader" 129) "java/lang/String" "value" "[B") (.int (Int32.ofNat j))) (.int (([[116, 117, 114, 110]] : List (List Int32)).getD i [] |>.getD j 0))).before #[Value.ref b] s = true := by
    intro i hi j hj
    obtain rfl : i = 0 := by omega
    have hj : j < 4 := hj
    rcases (show j = 0 ∨ j = 1 ∨ j = 2 ∨ j = 3 by omega) with rfl | rfl | rfl | rfl
    · exact hs _ (lw_sc0 _ (List.mem_of_getElem? (i := 29) rfl))
    · exact hs _ (lw_sc0 _ (List.mem_of_getElem? (i := 30) rfl))
    · exact hs _ (lw_sc0 _ (List.mem_of_getElem? (i := 31) rfl))
    · exact hs _ (lw_sc0 _ (List.mem_of_getElem? (i := 32) rfl))
  obtain ⟨K, V, S, u⟩ := vk_Sof (args := #[Value.ref b]) (s := s) (N := 1) (tm := fun _ => (Term.string "OneHeavyLoad$Reader" 129)) (len := [4]) (byt := [[116, 117, 114, 110]]) (A := fun q => s.heap.size ≤ q) a1 (fun i hi => hs _ (lw_sc0 _ (List.mem_of_getElem? (i := 25) rfl))) (fun i hi => hs _ (lw_sc0 _ (List.mem_of_getElem? (i := 26) rfl))) (fun i hi => hs _ (lw_sc0 _ (List.mem_of_getElem? (i := 27) rfl))) a2 a3 (fun i j hi hj hne => absurd (show i = j by omega) hne) hnA
  exact ⟨K 0, V 0, S.1 0 (by decide), u 0 (by decide)⟩
set_option maxHeartbeats 4000000 in
set_option maxRecDepth 100000 in
theorem lw_st4 {s : State} {b : Nat} (hs : ∀ x ∈ flatC (Jvm.Cond.and given_1 narrow_1), x.before #[Value.ref b] s = true) (hnA : ∀ a : Nat, a < s.heap.size → ¬ (fun q : Nat => s.heap.size ≤ q) a) : ∃ K V : Nat, (va_O "java/lang/String" K (fun q => s.heap.size ≤ q) s s.heap ∧ va_OF "java/lang/String" "coder" "B" (.int 0) K (fun q => s.heap.size ≤ q) s s.heap ∧ va_OF "java/lang/String" "value" "[B" (.ref V) K (fun q => s.heap.size ≤ q) s s.heap ∧ va_T .byte V (oh_len 4) (fun i => .int (oh_byt 4 i)) (fun q => s.heap.size ≤ q) s s.heap) ∧ (Term.string "OneHeavyLoad$Reader" 131).eval #[Value.ref b] s none [] s = some (.ref K) := by
  have a1 : ∀ i : Nat, i < 1 → ([6] : List Nat).getD i 0 < 2 ^ 31 := by
    intro i hi
    obtain rfl : i = 0 := by omega
    decide
  have a2 : ∀ i : Nat, i < 1 → (Cond.eq (.length (.field (.string "OneHeavyLoad$Reader" 131) "java/lang/String" "value" "[B")) (.int (Int32.ofNat (([6] : List Nat).getD i 0)))).before #[Value.ref b] s = true := by
    intro i hi
    obtain rfl : i = 0 := by omega
    exact hs _ (lw_sc0 _ (List.mem_of_getElem? (i := 36) rfl))
  have a3 : ∀ i : Nat, i < 1 → ∀ j : Nat, j < ([6] : List Nat).getD i 0 → (Cond.eq (.elem (.field (.string "OneHeavyLoad$Reader" 131) "java/lang/String" "value" "[B") (.int (Int32.ofNat j))) (.int (([[112, 97, 114, 105, 115, 104]] : List (List Int32)).getD i [] |>.getD j 0))).before #[Value.ref b] s = true := by
    intro i hi j hj
    obtain rfl : i = 0 := by omega
    have hj : j < 6 := hj
    rcases (show j = 0 ∨ j = 1 ∨ j = 2 ∨ j = 3 ∨ j = 4 ∨ j = 5 by omega) with rfl | rfl | rfl | rfl | rfl | rfl
    · exact hs _ (lw_sc0 _ (List.mem_of_getElem? (i := 37) rfl))
    · exact hs _ (lw_sc0 _ (List.mem_of_getElem? (i := 38) rfl))
    · exact hs _ (lw_sc0 _ (List.mem_of_getElem? (i := 39) rfl))
    · exact hs _ (lw_sc0 _ (List.mem_of_getElem? (i := 40) rfl))
    · exact hs _ (lw_sc0 _ (List.mem_of_getElem? (i := 41) rfl))
    · exact hs _ (lw_sc0 _ (List.mem_of_getElem? (i := 42) rfl))
  obtain ⟨K, V, S, u⟩ := vk_Sof (args := #[Value.ref b]) (s := s) (N := 1) (tm := fun _ => (Term.string "OneHeavyLoad$Reader" 131)) (len := [6]) (byt := [[112, 97, 114, 105, 115, 104]]) (A := fun q => s.heap.size ≤ q) a1 (fun i hi => hs _ (lw_sc0 _ (List.mem_of_getElem? (i := 33) rfl))) (fun i hi => hs _ (lw_sc0 _ (List.mem_of_getElem? (i := 34) rfl))) (fun i hi => hs _ (lw_sc0 _ (List.mem_of_getElem? (i := 35) rfl))) a2 a3 (fun i j hi hj hne => absurd (show i = j by omega) hne) hnA
  exact ⟨K 0, V 0, S.1 0 (by decide), u 0 (by decide)⟩
set_option maxHeartbeats 4000000 in
set_option maxRecDepth 100000 in
theorem lw_st5 {s : State} {b : Nat} (hs : ∀ x ∈ flatC (Jvm.Cond.and given_1 narrow_1), x.before #[Value.ref b] s = true) (hnA : ∀ a : Nat, a < s.heap.size → ¬ (fun q : Nat => s.heap.size ≤ q) a) : ∃ K V : Nat, (va_O "java/lang/String" K (fun q => s.heap.size ≤ q) s s.heap ∧ va_OF "java/lang/String" "coder" "B" (.int 0) K (fun q => s.heap.size ≤ q) s s.heap ∧ va_OF "java/lang/String" "value" "[B" (.ref V) K (fun q => s.heap.size ≤ q) s s.heap ∧ va_T .byte V (oh_len 5) (fun i => .int (oh_byt 5 i)) (fun q => s.heap.size ≤ q) s s.heap) ∧ (Term.string "OneHeavyLoad$Reader" 70).eval #[Value.ref b] s none [] s = some (.ref K) := by
  have a1 : ∀ i : Nat, i < 1 → ([6] : List Nat).getD i 0 < 2 ^ 31 := by
    intro i hi
    obtain rfl : i = 0 := by omega
    decide
  have a2 : ∀ i : Nat, i < 1 → (Cond.eq (.length (.field (.string "OneHeavyLoad$Reader" 70) "java/lang/String" "value" "[B")) (.int (Int32.ofNat (([6] : List Nat).getD i 0)))).before #[Value.ref b] s = true := by
    intro i hi
    obtain rfl : i = 0 := by omega
    exact hs _ (lw_sc0 _ (List.mem_of_getElem? (i := 46) rfl))
  have a3 : ∀ i : Nat, i < 1 → ∀ j : Nat, j < ([6] : List Nat).getD i 0 → (Cond.eq (.elem (.field (.string "OneHeavyLoad$Reader" 70) "java/lang/String" "value" "[B") (.int (Int32.ofNat j))) (.int (([[98, 114, 105, 100, 103, 101]] : List (List Int32)).getD i [] |>.getD j 0))).before #[Value.ref b] s = true := by
    intro i hi j hj
    obtain rfl : i = 0 := by omega
    have hj : j < 6 := hj
    rcases (show j = 0 ∨ j = 1 ∨ j = 2 ∨ j = 3 ∨ j = 4 ∨ j = 5 by omega) with rfl | rfl | rfl | rfl | rfl | rfl
    · exact hs _ (lw_sc0 _ (List.mem_of_getElem? (i := 47) rfl))
    · exact hs _ (lw_sc0 _ (List.mem_of_getElem? (i := 48) rfl))
    · exact hs _ (lw_sc0 _ (List.mem_of_getElem? (i := 49) rfl))
    · exact hs _ (lw_sc0 _ (List.mem_of_getElem? (i := 50) rfl))
    · exact hs _ (lw_sc0 _ (List.mem_of_getElem? (i := 51) rfl))
    · exact hs _ (lw_sc0 _ (List.mem_of_getElem? (i := 52) rfl))
  obtain ⟨K, V, S, u⟩ := vk_Sof (args := #[Value.ref b]) (s := s) (N := 1) (tm := fun _ => (Term.string "OneHeavyLoad$Reader" 70)) (len := [6]) (byt := [[98, 114, 105, 100, 103, 101]]) (A := fun q => s.heap.size ≤ q) a1 (fun i hi => hs _ (lw_sc0 _ (List.mem_of_getElem? (i := 43) rfl))) (fun i hi => hs _ (lw_sc0 _ (List.mem_of_getElem? (i := 44) rfl))) (fun i hi => hs _ (lw_sc0 _ (List.mem_of_getElem? (i := 45) rfl))) a2 a3 (fun i j hi hj hne => absurd (show i = j by omega) hne) hnA
  exact ⟨K 0, V 0, S.1 0 (by decide), u 0 (by decide)⟩
set_option maxHeartbeats 4000000 in
set_option maxRecDepth 100000 in
theorem lw_st6 {s : State} {b : Nat} (hs : ∀ x ∈ flatC (Jvm.Cond.and given_1 narrow_1), x.before #[Value.ref b] s = true) (hnA : ∀ a : Nat, a < s.heap.size → ¬ (fun q : Nat => s.heap.size ≤ q) a) : ∃ K V : Nat, (va_O "java/lang/String" K (fun q => s.heap.size ≤ q) s s.heap ∧ va_OF "java/lang/String" "coder" "B" (.int 0) K (fun q => s.heap.size ≤ q) s s.heap ∧ va_OF "java/lang/String" "value" "[B" (.ref V) K (fun q => s.heap.size ≤ q) s s.heap ∧ va_T .byte V (oh_len 6) (fun i => .int (oh_byt 6 i)) (fun q => s.heap.size ≤ q) s s.heap) ∧ (Term.string "OneHeavyLoad$Reader" 137).eval #[Value.ref b] s none [] s = some (.ref K) := by
  have a1 : ∀ i : Nat, i < 1 → ([4] : List Nat).getD i 0 < 2 ^ 31 := by
    intro i hi
    obtain rfl : i = 0 := by omega
    decide
  have a2 : ∀ i : Nat, i < 1 → (Cond.eq (.length (.field (.string "OneHeavyLoad$Reader" 137) "java/lang/String" "value" "[B")) (.int (Int32.ofNat (([4] : List Nat).getD i 0)))).before #[Value.ref b] s = true := by
    intro i hi
    obtain rfl : i = 0 := by omega
    exact hs _ (lw_sc0 _ (List.mem_of_getElem? (i := 56) rfl))
  have a3 : ∀ i : Nat, i < 1 → ∀ j : Nat, j < ([4] : List Nat).getD i 0 → (Cond.eq (.elem (.field (.string "OneHeavyLoad$Reader" 137) "java/lang/String" "value" "[B") (.int (Int32.ofNat j))) (.int (([[107, 105, 110, 100]] : List (List Int32)).getD i [] |>.getD j 0))).before #[Value.ref b] s = true := by
    intro i hi j hj
    obtain rfl : i = 0 := by omega
    have hj : j < 4 := hj
    rcases (show j = 0 ∨ j = 1 ∨ j = 2 ∨ j = 3 by omega) with rfl | rfl | rfl | rfl
    · exact hs _ (lw_sc0 _ (List.mem_of_getElem? (i := 57) rfl))
    · exact hs _ (lw_sc0 _ (List.mem_of_getElem? (i := 58) rfl))
    · exact hs _ (lw_sc0 _ (List.mem_of_getElem? (i := 59) rfl))
    · exact hs _ (lw_sc1 _ (List.mem_of_getElem? (i := 0) rfl))
  obtain ⟨K, V, S, u⟩ := vk_Sof (args := #[Value.ref b]) (s := s) (N := 1) (tm := fun _ => (Term.string "OneHeavyLoad$Reader" 137)) (len := [4]) (byt := [[107, 105, 110, 100]]) (A := fun q => s.heap.size ≤ q) a1 (fun i hi => hs _ (lw_sc0 _ (List.mem_of_getElem? (i := 53) rfl))) (fun i hi => hs _ (lw_sc0 _ (List.mem_of_getElem? (i := 54) rfl))) (fun i hi => hs _ (lw_sc0 _ (List.mem_of_getElem? (i := 55) rfl))) a2 a3 (fun i j hi hj hne => absurd (show i = j by omega) hne) hnA
  exact ⟨K 0, V 0, S.1 0 (by decide), u 0 (by decide)⟩
set_option maxHeartbeats 4000000 in
set_option maxRecDepth 100000 in
theorem lw_st7 {s : State} {b : Nat} (hs : ∀ x ∈ flatC (Jvm.Cond.and given_1 narrow_1), x.before #[Value.ref b] s = true) (hnA : ∀ a : Nat, a < s.heap.size → ¬ (fun q : Nat => s.heap.size ≤ q) a) : ∃ K V : Nat, (va_O "java/lang/String" K (fun q => s.heap.size ≤ q) s s.heap ∧ va_OF "java/lang/String" "coder" "B" (.int 0) K (fun q => s.heap.size ≤ q) s s.heap ∧ va_OF "java/lang/String" "value" "[B" (.ref V) K (fun q => s.heap.size ≤ q) s s.heap ∧ va_T .byte V (oh_len 7) (fun i => .int (oh_byt 7 i)) (fun q => s.heap.size ≤ q) s s.heap) ∧ (Term.string "OneHeavyLoad$Reader" 139).eval #[Value.ref b] s none [] s = some (.ref K) := by
  have a1 : ∀ i : Nat, i < 1 → ([4] : List Nat).getD i 0 < 2 ^ 31 := by
    intro i hi
    obtain rfl : i = 0 := by omega
    decide
  have a2 : ∀ i : Nat, i < 1 → (Cond.eq (.length (.field (.string "OneHeavyLoad$Reader" 139) "java/lang/String" "value" "[B")) (.int (Int32.ofNat (([4] : List Nat).getD i 0)))).before #[Value.ref b] s = true := by
    intro i hi
    obtain rfl : i = 0 := by omega
    exact hs _ (lw_sc1 _ (List.mem_of_getElem? (i := 4) rfl))
  have a3 : ∀ i : Nat, i < 1 → ∀ j : Nat, j < ([4] : List Nat).getD i 0 → (Cond.eq (.elem (.field (.string "OneHeavyLoad$Reader" 139) "java/lang/String" "value" "[B") (.int (Int32.ofNat j))) (.int (([[115, 112, 97, 110]] : List (List Int32)).getD i [] |>.getD j 0))).before #[Value.ref b] s = true := by
    intro i hi j hj
    obtain rfl : i = 0 := by omega
    have hj : j < 4 := hj
    rcases (show j = 0 ∨ j = 1 ∨ j = 2 ∨ j = 3 by omega) with rfl | rfl | rfl | rfl
    · exact hs _ (lw_sc1 _ (List.mem_of_getElem? (i := 5) rfl))
    · exact hs _ (lw_sc1 _ (List.mem_of_getElem? (i := 6) rfl))
    · exact hs _ (lw_sc1 _ (List.mem_of_getElem? (i := 7) rfl))
    · exact hs _ (lw_sc1 _ (List.mem_of_getElem? (i := 8) rfl))
  obtain ⟨K, V, S, u⟩ := vk_Sof (args := #[Value.ref b]) (s := s) (N := 1) (tm := fun _ => (Term.string "OneHeavyLoad$Reader" 139)) (len := [4]) (byt := [[115, 112, 97, 110]]) (A := fun q => s.heap.size ≤ q) a1 (fun i hi => hs _ (lw_sc1 _ (List.mem_of_getElem? (i := 1) rfl))) (fun i hi => hs _ (lw_sc1 _ (List.mem_of_getElem? (i := 2) rfl))) (fun i hi => hs _ (lw_sc1 _ (List.mem_of_getElem? (i := 3) rfl))) a2 a3 (fun i j hi hj hne => absurd (show i = j by omega) hne) hnA
  exact ⟨K 0, V 0, S.1 0 (by decide), u 0 (by decide)⟩
set_option maxHeartbeats 4000000 in
set_option maxRecDepth 100000 in
theorem lw_st8 {s : State} {b : Nat} (hs : ∀ x ∈ flatC (Jvm.Cond.and given_1 narrow_1), x.before #[Value.ref b] s = true) (hnA : ∀ a : Nat, a < s.heap.size → ¬ (fun q : Nat => s.heap.size ≤ q) a) : ∃ K V : Nat, (va_O "java/lang/String" K (fun q => s.heap.size ≤ q) s s.heap ∧ va_OF "java/lang/String" "coder" "B" (.int 0) K (fun q => s.heap.size ≤ q) s s.heap ∧ va_OF "java/lang/String" "value" "[B" (.ref V) K (fun q => s.heap.size ≤ q) s s.heap ∧ va_T .byte V (oh_len 8) (fun i => .int (oh_byt 8 i)) (fun q => s.heap.size ≤ q) s s.heap) ∧ (Term.string "OneHeavyLoad$Reader" 141).eval #[Value.ref b] s none [] s = some (.ref K) := by
  have a1 : ∀ i : Nat, i < 1 → ([4] : List Nat).getD i 0 < 2 ^ 31 := by
    intro i hi
    obtain rfl : i = 0 := by omega
    decide
  have a2 : ∀ i : Nat, i < 1 → (Cond.eq (.length (.field (.string "OneHeavyLoad$Reader" 141) "java/lang/String" "value" "[B")) (.int (Int32.ofNat (([4] : List Nat).getD i 0)))).before #[Value.ref b] s = true := by
    intro i hi
    obtain rfl : i = 0 := by omega
    exact hs _ (lw_sc1 _ (List.mem_of_getElem? (i := 12) rfl))
  have a3 : ∀ i : Nat, i < 1 → ∀ j : Nat, j < ([4] : List Nat).getD i 0 → (Cond.eq (.elem (.field (.string "OneHeavyLoad$Reader" 141) "java/lang/String" "value" "[B") (.int (Int32.ofNat j))) (.int (([[97, 120, 108, 101]] : List (List Int32)).getD i [] |>.getD j 0))).before #[Value.ref b] s = true := by
    intro i hi j hj
    obtain rfl : i = 0 := by omega
    have hj : j < 4 := hj
    rcases (show j = 0 ∨ j = 1 ∨ j = 2 ∨ j = 3 by omega) with rfl | rfl | rfl | rfl
    · exact hs _ (lw_sc1 _ (List.mem_of_getElem? (i := 13) rfl))
    · exact hs _ (lw_sc1 _ (List.mem_of_getElem? (i := 14) rfl))
    · exact hs _ (lw_sc1 _ (List.mem_of_getElem? (i := 15) rfl))
    · exact hs _ (lw_sc1 _ (List.mem_of_getElem? (i := 16) rfl))
  obtain ⟨K, V, S, u⟩ := vk_Sof (args := #[Value.ref b]) (s := s) (N := 1) (tm := fun _ => (Term.string "OneHeavyLoad$Reader" 141)) (len := [4]) (byt := [[97, 120, 108, 101]]) (A := fun q => s.heap.size ≤ q) a1 (fun i hi => hs _ (lw_sc1 _ (List.mem_of_getElem? (i := 9) rfl))) (fun i hi => hs _ (lw_sc1 _ (List.mem_of_getElem? (i := 10) rfl))) (fun i hi => hs _ (lw_sc1 _ (List.mem_of_getElem? (i := 11) rfl))) a2 a3 (fun i j hi hj hne => absurd (show i = j by omega) hne) hnA
  exact ⟨K 0, V 0, S.1 0 (by decide), u 0 (by decide)⟩
set_option maxHeartbeats 4000000 in
set_option maxRecDepth 100000 in
theorem lw_st9 {s : State} {b : Nat} (hs : ∀ x ∈ flatC (Jvm.Cond.and given_1 narrow_1), x.before #[Value.ref b] s = true) (hnA : ∀ a : Nat, a < s.heap.size → ¬ (fun q : Nat => s.heap.size ≤ q) a) : ∃ K V : Nat, (va_O "java/lang/String" K (fun q => s.heap.size ≤ q) s s.heap ∧ va_OF "java/lang/String" "coder" "B" (.int 0) K (fun q => s.heap.size ≤ q) s s.heap ∧ va_OF "java/lang/String" "value" "[B" (.ref V) K (fun q => s.heap.size ≤ q) s s.heap ∧ va_T .byte V (oh_len 9) (fun i => .int (oh_byt 9 i)) (fun q => s.heap.size ≤ q) s s.heap) ∧ (Term.string "OneHeavyLoad$Reader" 143).eval #[Value.ref b] s none [] s = some (.ref K) := by
  have a1 : ∀ i : Nat, i < 1 → ([3] : List Nat).getD i 0 < 2 ^ 31 := by
    intro i hi
    obtain rfl : i = 0 := by omega
    decide
  have a2 : ∀ i : Nat, i < 1 → (Cond.eq (.length (.field (.string "OneHeavyLoad$Reader" 143) "java/lang/String" "value" "[B")) (.int (Int32.ofNat (([3] : List Nat).getD i 0)))).before #[Value.ref b] s = true := by
    intro i hi
    obtain rfl : i = 0 := by omega
    exact hs _ (lw_sc1 _ (List.mem_of_getElem? (i := 20) rfl))
  have a3 : ∀ i : Nat, i < 1 → ∀ j : Nat, j < ([3] : List Nat).getD i 0 → (Cond.eq (.elem (.field (.string "OneHeavyLoad$Reader" 143) "java/lang/String" "value" "[B") (.int (Int32.ofNat j))) (.int (([[97, 108, 108]] : List (List Int32)).getD i [] |>.getD j 0))).before #[Value.ref b] s = true := by
    intro i hi j hj
    obtain rfl : i = 0 := by omega
    have hj : j < 3 := hj
    rcases (show j = 0 ∨ j = 1 ∨ j = 2 by omega) with rfl | rfl | rfl
    · exact hs _ (lw_sc1 _ (List.mem_of_getElem? (i := 21) rfl))
    · exact hs _ (lw_sc1 _ (List.mem_of_getElem? (i := 22) rfl))
    · exact hs _ (lw_sc1 _ (List.mem_of_getElem? (i := 23) rfl))
  obtain ⟨K, V, S, u⟩ := vk_Sof (args := #[Value.ref b]) (s := s) (N := 1) (tm := fun _ => (Term.string "OneHeavyLoad$Reader" 143)) (len := [3]) (byt := [[97, 108, 108]]) (A := fun q => s.heap.size ≤ q) a1 (fun i hi => hs _ (lw_sc1 _ (List.mem_of_getElem? (i := 17) rfl))) (fun i hi => hs _ (lw_sc1 _ (List.mem_of_getElem? (i := 18) rfl))) (fun i hi => hs _ (lw_sc1 _ (List.mem_of_getElem? (i := 19) rfl))) a2 a3 (fun i j hi hj hne => absurd (show i = j by omega) hne) hnA
  exact ⟨K 0, V 0, S.1 0 (by decide), u 0 (by decide)⟩
set_option maxHeartbeats 4000000 in
set_option maxRecDepth 100000 in
theorem lw_st10 {s : State} {b : Nat} (hs : ∀ x ∈ flatC (Jvm.Cond.and given_1 narrow_1), x.before #[Value.ref b] s = true) (hnA : ∀ a : Nat, a < s.heap.size → ¬ (fun q : Nat => s.heap.size ≤ q) a) : ∃ K V : Nat, (va_O "java/lang/String" K (fun q => s.heap.size ≤ q) s s.heap ∧ va_OF "java/lang/String" "coder" "B" (.int 0) K (fun q => s.heap.size ≤ q) s s.heap ∧ va_OF "java/lang/String" "value" "[B" (.ref V) K (fun q => s.heap.size ≤ q) s s.heap ∧ va_T .byte V (oh_len 10) (fun i => .int (oh_byt 10 i)) (fun q => s.heap.size ≤ q) s s.heap) ∧ (Term.string "OneHeavyLoad$Reader" 145).eval #[Value.ref b] s none [] s = some (.ref K) := by
  have a1 : ∀ i : Nat, i < 1 → ([4] : List Nat).getD i 0 < 2 ^ 31 := by
    intro i hi
    obtain rfl : i = 0 := by omega
    decide
  have a2 : ∀ i : Nat, i < 1 → (Cond.eq (.length (.field (.string "OneHeavyLoad$Reader" 145) "java/lang/String" "value" "[B")) (.int (Int32.ofNat (([4] : List Nat).getD i 0)))).before #[Value.ref b] s = true := by
    intro i hi
    obtain rfl : i = 0 := by omega
    exact hs _ (lw_sc1 _ (List.mem_of_getElem? (i := 27) rfl))
  have a3 : ∀ i : Nat, i < 1 → ∀ j : Nat, j < ([4] : List Nat).getD i 0 → (Cond.eq (.elem (.field (.string "OneHeavyLoad$Reader" 145) "java/lang/String" "value" "[B") (.int (Int32.ofNat j))) (.int (([[112, 114, 111, 112]] : List (List Int32)).getD i [] |>.getD j 0))).before #[Value.ref b] s = true := by
    intro i hi j hj
    obtain rfl : i = 0 := by omega
    have hj : j < 4 := hj
    rcases (show j = 0 ∨ j = 1 ∨ j = 2 ∨ j = 3 by omega) with rfl | rfl | rfl | rfl
    · exact hs _ (lw_sc1 _ (List.mem_of_getElem? (i := 28) rfl))
    · exact hs _ (lw_sc1 _ (List.mem_of_getElem? (i := 29) rfl))
    · exact hs _ (lw_sc1 _ (List.mem_of_getElem? (i := 30) rfl))
    · exact hs _ (lw_sc1 _ (List.mem_of_getElem? (i := 31) rfl))
  obtain ⟨K, V, S, u⟩ := vk_Sof (args := #[Value.ref b]) (s := s) (N := 1) (tm := fun _ => (Term.string "OneHeavyLoad$Reader" 145)) (len := [4]) (byt := [[112, 114, 111, 112]]) (A := fun q => s.heap.size ≤ q) a1 (fun i hi => hs _ (lw_sc1 _ (List.mem_of_getElem? (i := 24) rfl))) (fun i hi => hs _ (lw_sc1 _ (List.mem_of_getElem? (i := 25) rfl))) (fun i hi => hs _ (lw_sc1 _ (List.mem_of_getElem? (i := 26) rfl))) a2 a3 (fun i j hi hj hne => absurd (show i = j by omega) hne) hnA
  exact ⟨K 0, V 0, S.1 0 (by decide), u 0 (by decide)⟩
set_option maxHeartbeats 4000000 in
set_option maxRecDepth 100000 in
theorem lw_st11 {s : State} {b : Nat} (hs : ∀ x ∈ flatC (Jvm.Cond.and given_1 narrow_1), x.before #[Value.ref b] s = true) (hnA : ∀ a : Nat, a < s.heap.size → ¬ (fun q : Nat => s.heap.size ≤ q) a) : ∃ K V : Nat, (va_O "java/lang/String" K (fun q => s.heap.size ≤ q) s s.heap ∧ va_OF "java/lang/String" "coder" "B" (.int 0) K (fun q => s.heap.size ≤ q) s s.heap ∧ va_OF "java/lang/String" "value" "[B" (.ref V) K (fun q => s.heap.size ≤ q) s s.heap ∧ va_T .byte V (oh_len 11) (fun i => .int (oh_byt 11 i)) (fun q => s.heap.size ≤ q) s s.heap) ∧ (Term.string "OneHeavyLoad$Reader" 75).eval #[Value.ref b] s none [] s = some (.ref K) := by
  have a1 : ∀ i : Nat, i < 1 → ([6] : List Nat).getD i 0 < 2 ^ 31 := by
    intro i hi
    obtain rfl : i = 0 := by omega
    decide
  have a2 : ∀ i : Nat, i < 1 → (Cond.eq (.length (.field (.string "OneHeavyLoad$Reader" 75) "java/lang/String" "value" "[B")) (.int (Int32.ofNat (([6] : List Nat).getD i 0)))).before #[Value.ref b] s = true := by
    intro i hi
    obtain rfl : i = 0 := by omega
    exact hs _ (lw_sc1 _ (List.mem_of_getElem? (i := 35) rfl))
  have a3 : ∀ i : Nat, i < 1 → ∀ j : Nat, j < ([6] : List Nat).getD i 0 → (Cond.eq (.elem (.field (.string "OneHeavyLoad$Reader" 75) "java/lang/String" "value" "[B") (.int (Int32.ofNat j))) (.int (([[119, 97, 103, 103, 111, 110]] : List (List Int32)).getD i [] |>.getD j 0))).before #[Value.ref b] s = true := by
    intro i hi j hj
    obtain rfl : i = 0 := by omega
    have hj : j < 6 := hj
    rcases (show j = 0 ∨ j = 1 ∨ j = 2 ∨ j = 3 ∨ j = 4 ∨ j = 5 by omega) with rfl | rfl | rfl | rfl | rfl | rfl
    · exact hs _ (lw_sc1 _ (List.mem_of_getElem? (i := 36) rfl))
    · exact hs _ (lw_sc1 _ (List.mem_of_getElem? (i := 37) rfl))
    · exact hs _ (lw_sc1 _ (List.mem_of_getElem? (i := 38) rfl))
    · exact hs _ (lw_sc1 _ (List.mem_of_getElem? (i := 39) rfl))
    · exact hs _ (lw_sc1 _ (List.mem_of_getElem? (i := 40) rfl))
    · exact hs _ (lw_sc1 _ (List.mem_of_getElem? (i := 41) rfl))
  obtain ⟨K, V, S, u⟩ := vk_Sof (args := #[Value.ref b]) (s := s) (N := 1) (tm := fun _ => (Term.string "OneHeavyLoad$Reader" 75)) (len := [6]) (byt := [[119, 97, 103, 103, 111, 110]]) (A := fun q => s.heap.size ≤ q) a1 (fun i hi => hs _ (lw_sc1 _ (List.mem_of_getElem? (i := 32) rfl))) (fun i hi => hs _ (lw_sc1 _ (List.mem_of_getElem? (i := 33) rfl))) (fun i hi => hs _ (lw_sc1 _ (List.mem_of_getElem? (i := 34) rfl))) a2 a3 (fun i j hi hj hne => absurd (show i = j by omega) hne) hnA
  exact ⟨K 0, V 0, S.1 0 (by decide), u 0 (by decide)⟩
set_option maxHeartbeats 4000000 in
set_option maxRecDepth 100000 in
theorem lw_st12 {s : State} {b : Nat} (hs : ∀ x ∈ flatC (Jvm.Cond.and given_1 narrow_1), x.before #[Value.ref b] s = true) (hnA : ∀ a : Nat, a < s.heap.size → ¬ (fun q : Nat => s.heap.size ≤ q) a) : ∃ K V : Nat, (va_O "java/lang/String" K (fun q => s.heap.size ≤ q) s s.heap ∧ va_OF "java/lang/String" "coder" "B" (.int 0) K (fun q => s.heap.size ≤ q) s s.heap ∧ va_OF "java/lang/String" "value" "[B" (.ref V) K (fun q => s.heap.size ≤ q) s s.heap ∧ va_T .byte V (oh_len 12) (fun i => .int (oh_byt 12 i)) (fun q => s.heap.size ≤ q) s s.heap) ∧ (Term.string "OneHeavyLoad$Reader" 155).eval #[Value.ref b] s none [] s = some (.ref K) := by
  have a1 : ∀ i : Nat, i < 1 → ([5] : List Nat).getD i 0 < 2 ^ 31 := by
    intro i hi
    obtain rfl : i = 0 := by omega
    decide
  have a2 : ∀ i : Nat, i < 1 → (Cond.eq (.length (.field (.string "OneHeavyLoad$Reader" 155) "java/lang/String" "value" "[B")) (.int (Int32.ofNat (([5] : List Nat).getD i 0)))).before #[Value.ref b] s = true := by
    intro i hi
    obtain rfl : i = 0 := by omega
    exact hs _ (lw_sc1 _ (List.mem_of_getElem? (i := 45) rfl))
  have a3 : ∀ i : Nat, i < 1 → ∀ j : Nat, j < ([5] : List Nat).getD i 0 → (Cond.eq (.elem (.field (.string "OneHeavyLoad$Reader" 155) "java/lang/String" "value" "[B") (.int (Int32.ofNat j))) (.int (([[115, 112, 97, 99, 101]] : List (List Int32)).getD i [] |>.getD j 0))).before #[Value.ref b] s = true := by
    intro i hi j hj
    obtain rfl : i = 0 := by omega
    have hj : j < 5 := hj
    rcases (show j = 0 ∨ j = 1 ∨ j = 2 ∨ j = 3 ∨ j = 4 by omega) with rfl | rfl | rfl | rfl | rfl
    · exact hs _ (lw_sc1 _ (List.mem_of_getElem? (i := 46) rfl))
    · exact hs _ (lw_sc1 _ (List.mem_of_getElem? (i := 47) rfl))
    · exact hs _ (lw_sc1 _ (List.mem_of_getElem? (i := 48) rfl))
    · exact hs _ (lw_sc1 _ (List.mem_of_getElem? (i := 49) rfl))
    · exact hs _ (lw_sc1 _ (List.mem_of_getElem? (i := 50) rfl))
  obtain ⟨K, V, S, u⟩ := vk_Sof (args := #[Value.ref b]) (s := s) (N := 1) (tm := fun _ => (Term.string "OneHeavyLoad$Reader" 155)) (len := [5]) (byt := [[115, 112, 97, 99, 101]]) (A := fun q => s.heap.size ≤ q) a1 (fun i hi => hs _ (lw_sc1 _ (List.mem_of_getElem? (i := 42) rfl))) (fun i hi => hs _ (lw_sc1 _ (List.mem_of_getElem? (i := 43) rfl))) (fun i hi => hs _ (lw_sc1 _ (List.mem_of_getElem? (i := 44) rfl))) a2 a3 (fun i j hi hj hne => absurd (show i = j by omega) hne) hnA
  exact ⟨K 0, V 0, S.1 0 (by decide), u 0 (by decide)⟩
set_option maxHeartbeats 4000000 in
set_option maxRecDepth 100000 in
theorem lw_st13 {s : State} {b : Nat} (hs : ∀ x ∈ flatC (Jvm.Cond.and given_1 narrow_1), x.before #[Value.ref b] s = true) (hnA : ∀ a : Nat, a < s.heap.size → ¬ (fun q : Nat => s.heap.size ≤ q) a) : ∃ K V : Nat, (va_O "java/lang/String" K (fun q => s.heap.size ≤ q) s s.heap ∧ va_OF "java/lang/String" "coder" "B" (.int 0) K (fun q => s.heap.size ≤ q) s s.heap ∧ va_OF "java/lang/String" "value" "[B" (.ref V) K (fun q => s.heap.size ≤ q) s s.heap ∧ va_T .byte V (oh_len 13) (fun i => .int (oh_byt 13 i)) (fun q => s.heap.size ≤ q) s s.heap) ∧ (Term.string "OneHeavyLoad$Reader" 157).eval #[Value.ref b] s none [] s = some (.ref K) := by
  have a1 : ∀ i : Nat, i < 1 → ([4] : List Nat).getD i 0 < 2 ^ 31 := by
    intro i hi
    obtain rfl : i = 0 := by omega
    decide
  have a2 : ∀ i : Nat, i < 1 → (Cond.eq (.length (.field (.string "OneHeavyLoad$Reader" 157) "java/lang/String" "value" "[B")) (.int (Int32.ofNat (([4] : List Nat).getD i 0)))).before #[Value.ref b] s = true := by
    intro i hi
    obtain rfl : i = 0 := by omega
    exact hs _ (lw_sc1 _ (List.mem_of_getElem? (i := 54) rfl))
  have a3 : ∀ i : Nat, i < 1 → ∀ j : Nat, j < ([4] : List Nat).getD i 0 → (Cond.eq (.elem (.field (.string "OneHeavyLoad$Reader" 157) "java/lang/String" "value" "[B") (.int (Int32.ofNat j))) (.int (([[116, 97, 114, 101]] : List (List Int32)).getD i [] |>.getD j 0))).before #[Value.ref b] s = true := by
    intro i hi j hj
    obtain rfl : i = 0 := by omega
    have hj : j < 4 := hj
    rcases (show j = 0 ∨ j = 1 ∨ j = 2 ∨ j = 3 by omega) with rfl | rfl | rfl | rfl
    · exact hs _ (lw_sc1 _ (List.mem_of_getElem? (i := 55) rfl))
    · exact hs _ (lw_sc1 _ (List.mem_of_getElem? (i := 56) rfl))
    · exact hs _ (lw_sc1 _ (List.mem_of_getElem? (i := 57) rfl))
    · exact hs _ (lw_sc1 _ (List.mem_of_getElem? (i := 58) rfl))
  obtain ⟨K, V, S, u⟩ := vk_Sof (args := #[Value.ref b]) (s := s) (N := 1) (tm := fun _ => (Term.string "OneHeavyLoad$Reader" 157)) (len := [4]) (byt := [[116, 97, 114, 101]]) (A := fun q => s.heap.size ≤ q) a1 (fun i hi => hs _ (lw_sc1 _ (List.mem_of_getElem? (i := 51) rfl))) (fun i hi => hs _ (lw_sc1 _ (List.mem_of_getElem? (i := 52) rfl))) (fun i hi => hs _ (lw_sc1 _ (List.mem_of_getElem? (i := 53) rfl))) a2 a3 (fun i j hi hj hne => absurd (show i = j by omega) hne) hnA
  exact ⟨K 0, V 0, S.1 0 (by decide), u 0 (by decide)⟩
set_option maxHeartbeats 4000000 in
set_option maxRecDepth 100000 in
theorem lw_st14 {s : State} {b : Nat} (hs : ∀ x ∈ flatC (Jvm.Cond.and given_1 narrow_1), x.before #[Value.ref b] s = true) (hnA : ∀ a : Nat, a < s.heap.size → ¬ (fun q : Nat => s.heap.size ≤ q) a) : ∃ K V : Nat, (va_O "java/lang/String" K (fun q => s.heap.size ≤ q) s s.heap ∧ va_OF "java/lang/String" "coder" "B" (.int 0) K (fun q => s.heap.size ≤ q) s s.heap ∧ va_OF "java/lang/String" "value" "[B" (.ref V) K (fun q => s.heap.size ≤ q) s s.heap ∧ va_T .byte V (oh_len 14) (fun i => .int (oh_byt 14 i)) (fun q => s.heap.size ≤ q) s s.heap) ∧ (Term.string "OneHeavyLoad$Reader" 80).eval #[Value.ref b] s none [] s = some (.ref K) := by
  have a1 : ∀ i : Nat, i < 1 → ([4] : List Nat).getD i 0 < 2 ^ 31 := by
    intro i hi
    obtain rfl : i = 0 := by omega
    decide
  have a2 : ∀ i : Nat, i < 1 → (Cond.eq (.length (.field (.string "OneHeavyLoad$Reader" 80) "java/lang/String" "value" "[B")) (.int (Int32.ofNat (([4] : List Nat).getD i 0)))).before #[Value.ref b] s = true := by
    intro i hi
    obtain rfl : i = 0 := by omega
    exact hs _ (lw_sc2 _ (List.mem_of_getElem? (i := 2) rfl))
  have a3 : ∀ i : Nat, i < 1 → ∀ j : Nat, j < ([4] : List Nat).getD i 0 → (Cond.eq (.elem (.field (.string "OneHeavyLoad$Reader" 80) "java/lang/String" "value" "[B") (.int (Int32.ofNat j))) (.int (([[112, 97, 114, 116]] : List (List Int32)).getD i [] |>.getD j 0))).before #[Value.ref b] s = true := by
    intro i hi j hj
    obtain rfl : i = 0 := by omega
    have hj : j < 4 := hj
    rcases (show j = 0 ∨ j = 1 ∨ j = 2 ∨ j = 3 by omega) with rfl | rfl | rfl | rfl
    · exact hs _ (lw_sc2 _ (List.mem_of_getElem? (i := 3) rfl))
    · exact hs _ (lw_sc2 _ (List.mem_of_getElem? (i := 4) rfl))
    · exact hs _ (lw_sc2 _ (List.mem_of_getElem? (i := 5) rfl))
    · exact hs _ (lw_sc2 _ (List.mem_of_getElem? (i := 6) rfl))
  obtain ⟨K, V, S, u⟩ := vk_Sof (args := #[Value.ref b]) (s := s) (N := 1) (tm := fun _ => (Term.string "OneHeavyLoad$Reader" 80)) (len := [4]) (byt := [[112, 97, 114, 116]]) (A := fun q => s.heap.size ≤ q) a1 (fun i hi => hs _ (lw_sc1 _ (List.mem_of_getElem? (i := 59) rfl))) (fun i hi => hs _ (lw_sc2 _ (List.mem_of_getElem? (i := 0) rfl))) (fun i hi => hs _ (lw_sc2 _ (List.mem_of_getElem? (i := 1) rfl))) a2 a3 (fun i j hi hj hne => absurd (show i = j by omega) hne) hnA
  exact ⟨K 0, V 0, S.1 0 (by decide), u 0 (by decide)⟩
set_option maxHeartbeats 4000000 in
set_option maxRecDepth 100000 in
theorem lw_st15 {s : State} {b : Nat} (hs : ∀ x ∈ flatC (Jvm.Cond.and given_1 narrow_1), x.before #[Value.ref b] s = true) (hnA : ∀ a : Nat, a < s.heap.size → ¬ (fun q : Nat => s.heap.size ≤ q) a) : ∃ K V : Nat, (va_O "java/lang/String" K (fun q => s.heap.size ≤ q) s s.heap ∧ va_OF "java/lang/String" "coder" "B" (.int 0) K (fun q => s.heap.size ≤ q) s s.heap ∧ va_OF "java/lang/String" "value" "[B" (.ref V) K (fun q => s.heap.size ≤ q) s s.heap ∧ va_T .byte V (oh_len 15) (fun i => .int (oh_byt 15 i)) (fun q => s.heap.size ≤ q) s s.heap) ∧ (Term.string "OneHeavyLoad$Reader" 85).eval #[Value.ref b] s none [] s = some (.ref K) := by
  have a1 : ∀ i : Nat, i < 1 → ([4] : List Nat).getD i 0 < 2 ^ 31 := by
    intro i hi
    obtain rfl : i = 0 := by omega
    decide
  have a2 : ∀ i : Nat, i < 1 → (Cond.eq (.length (.field (.string "OneHeavyLoad$Reader" 85) "java/lang/String" "value" "[B")) (.int (Int32.ofNat (([4] : List Nat).getD i 0)))).before #[Value.ref b] s = true := by
    intro i hi
    obtain rfl : i = 0 := by omega
    exact hs _ (lw_sc2 _ (List.mem_of_getElem? (i := 10) rfl))
  have a3 : ∀ i : Nat, i < 1 → ∀ j : Nat, j < ([4] : List Nat).getD i 0 → (Cond.eq (.elem (.field (.string "OneHeavyLoad$Reader" 85) "java/lang/String" "value" "[B") (.int (Int32.ofNat j))) (.int (([[108, 111, 97, 100]] : List (List Int32)).getD i [] |>.getD j 0))).before #[Value.ref b] s = true := by
    intro i hi j hj
    obtain rfl : i = 0 := by omega
    have hj : j < 4 := hj
    rcases (show j = 0 ∨ j = 1 ∨ j = 2 ∨ j = 3 by omega) with rfl | rfl | rfl | rfl
    · exact hs _ (lw_sc2 _ (List.mem_of_getElem? (i := 11) rfl))
    · exact hs _ (lw_sc2 _ (List.mem_of_getElem? (i := 12) rfl))
    · exact hs _ (lw_sc2 _ (List.mem_of_getElem? (i := 13) rfl))
    · exact hs _ (lw_sc2 _ (List.mem_of_getElem? (i := 14) rfl))
  obtain ⟨K, V, S, u⟩ := vk_Sof (args := #[Value.ref b]) (s := s) (N := 1) (tm := fun _ => (Term.string "OneHeavyLoad$Reader" 85)) (len := [4]) (byt := [[108, 111, 97, 100]]) (A := fun q => s.heap.size ≤ q) a1 (fun i hi => hs _ (lw_sc2 _ (List.mem_of_getElem? (i := 7) rfl))) (fun i hi => hs _ (lw_sc2 _ (List.mem_of_getElem? (i := 8) rfl))) (fun i hi => hs _ (lw_sc2 _ (List.mem_of_getElem? (i := 9) rfl))) a2 a3 (fun i j hi hj hne => absurd (show i = j by omega) hne) hnA
  exact ⟨K 0, V 0, S.1 0 (by decide), u 0 (by decide)⟩
set_option maxHeartbeats 4000000 in
set_option maxRecDepth 100000 in
theorem lw_st16 {s : State} {b : Nat} (hs : ∀ x ∈ flatC (Jvm.Cond.and given_1 narrow_1), x.before #[Value.ref b] s = true) (hnA : ∀ a : Nat, a < s.heap.size → ¬ (fun q : Nat => s.heap.size ≤ q) a) : ∃ K V : Nat, (va_O "java/lang/String" K (fun q => s.heap.size ≤ q) s s.heap ∧ va_OF "java/lang/String" "coder" "B" (.int 0) K (fun q => s.heap.size ≤ q) s s.heap ∧ va_OF "java/lang/String" "value" "[B" (.ref V) K (fun q => s.heap.size ≤ q) s s.heap ∧ va_T .byte V (oh_len 16) (fun i => .int (oh_byt 16 i)) (fun q => s.heap.size ≤ q) s s.heap) ∧ (Term.string "OneHeavyLoad$Reader" 94).eval #[Value.ref b] s none [] s = some (.ref K) := by
  have a1 : ∀ i : Nat, i < 1 → ([4] : List Nat).getD i 0 < 2 ^ 31 := by
    intro i hi
    obtain rfl : i = 0 := by omega
    decide
  have a2 : ∀ i : Nat, i < 1 → (Cond.eq (.length (.field (.string "OneHeavyLoad$Reader" 94) "java/lang/String" "value" "[B")) (.int (Int32.ofNat (([4] : List Nat).getD i 0)))).before #[Value.ref b] s = true := by
    intro i hi
    obtain rfl : i = 0 := by omega
    exact hs _ (lw_sc2 _ (List.mem_of_getElem? (i := 18) rfl))
  have a3 : ∀ i : Nat, i < 1 → ∀ j : Nat, j < ([4] : List Nat).getD i 0 → (Cond.eq (.elem (.field (.string "OneHeavyLoad$Reader" 94) "java/lang/String" "value" "[B") (.int (Int32.ofNat j))) (.int (([[109, 105, 108, 101]] : List (List Int32)).getD i [] |>.getD j 0))).before #[Value.ref b] s = true := by
    intro i hi j hj
    obtain rfl : i = 0 := by omega
    have hj : j < 4 := hj
    rcases (show j = 0 ∨ j = 1 ∨ j = 2 ∨ j = 3 by omega) with rfl | rfl | rfl | rfl
    · exact hs _ (lw_sc2 _ (List.mem_of_getElem? (i := 19) rfl))
    · exact hs _ (lw_sc2 _ (List.mem_of_getElem? (i := 20) rfl))
    · exact hs _ (lw_sc2 _ (List.mem_of_getElem? (i := 21) rfl))
    · exact hs _ (lw_sc2 _ (List.mem_of_getElem? (i := 22) rfl))
  obtain ⟨K, V, S, u⟩ := vk_Sof (args := #[Value.ref b]) (s := s) (N := 1) (tm := fun _ => (Term.string "OneHeavyLoad$Reader" 94)) (len := [4]) (byt := [[109, 105, 108, 101]]) (A := fun q => s.heap.size ≤ q) a1 (fun i hi => hs _ (lw_sc2 _ (List.mem_of_getElem? (i := 15) rfl))) (fun i hi => hs _ (lw_sc2 _ (List.mem_of_getElem? (i := 16) rfl))) (fun i hi => hs _ (lw_sc2 _ (List.mem_of_getElem? (i := 17) rfl))) a2 a3 (fun i j hi hj hne => absurd (show i = j by omega) hne) hnA
  exact ⟨K 0, V 0, S.1 0 (by decide), u 0 (by decide)⟩
set_option maxHeartbeats 4000000 in
set_option maxRecDepth 100000 in
theorem lw_st17 {s : State} {b : Nat} (hs : ∀ x ∈ flatC (Jvm.Cond.and given_1 narrow_1), x.before #[Value.ref b] s = true) (hnA : ∀ a : Nat, a < s.heap.size → ¬ (fun q : Nat => s.heap.size ≤ q) a) : ∃ K V : Nat, (va_O "java/lang/String" K (fun q => s.heap.size ≤ q) s s.heap ∧ va_OF "java/lang/String" "coder" "B" (.int 0) K (fun q => s.heap.size ≤ q) s s.heap ∧ va_OF "java/lang/String" "value" "[B" (.ref V) K (fun q => s.heap.size ≤ q) s s.heap ∧ va_T .byte V (oh_len 17) (fun i => .int (oh_byt 17 i)) (fun q => s.heap.size ≤ q) s s.heap) ∧ (Term.string "OneHeavyLoadModel" 200).eval #[Value.ref b] s none [] s = some (.ref K) := by
  have a1 : ∀ i : Nat, i < 1 → ([4] : List Nat).getD i 0 < 2 ^ 31 := by
    intro i hi
    obtain rfl : i = 0 := by omega
    decide
  have a2 : ∀ i : Nat, i < 1 → (Cond.eq (.length (.field (.string "OneHeavyLoadModel" 200) "java/lang/String" "value" "[B")) (.int (Int32.ofNat (([4] : List Nat).getD i 0)))).before #[Value.ref b] s = true := by
    intro i hi
    obtain rfl : i = 0 := by omega
    exact hs _ (lw_sc2 _ (List.mem_of_getElem? (i := 26) rfl))
  have a3 : ∀ i : Nat, i < 1 → ∀ j : Nat, j < ([4] : List Nat).getD i 0 → (Cond.eq (.elem (.field (.string "OneHeavyLoadModel" 200) "java/lang/String" "value" "[B") (.int (Int32.ofNat j))) (.int (([[114, 111, 97, 100]] : List (List Int32)).getD i [] |>.getD j 0))).before #[Value.ref b] s = true := by
    intro i hi j hj
    obtain rfl : i = 0 := by omega
    have hj : j < 4 := hj
    rcases (show j = 0 ∨ j = 1 ∨ j = 2 ∨ j = 3 by omega) with rfl | rfl | rfl | rfl
    · exact hs _ (lw_sc2 _ (List.mem_of_getElem? (i := 27) rfl))
    · exact hs _ (lw_sc2 _ (List.mem_of_getElem? (i := 28) rfl))
    · exact hs _ (lw_sc2 _ (List.mem_of_getElem? (i := 29) rfl))
    · exact hs _ (lw_sc2 _ (List.mem_of_getElem? (i := 30) rfl))
  obtain ⟨K, V, S, u⟩ := vk_Sof (args := #[Value.ref b]) (s := s) (N := 1) (tm := fun _ => (Term.string "OneHeavyLoadModel" 200)) (len := [4]) (byt := [[114, 111, 97, 100]]) (A := fun q => s.heap.size ≤ q) a1 (fun i hi => hs _ (lw_sc2 _ (List.mem_of_getElem? (i := 23) rfl))) (fun i hi => hs _ (lw_sc2 _ (List.mem_of_getElem? (i := 24) rfl))) (fun i hi => hs _ (lw_sc2 _ (List.mem_of_getElem? (i := 25) rfl))) a2 a3 (fun i j hi hj hne => absurd (show i = j by omega) hne) hnA
  exact ⟨K 0, V 0, S.1 0 (by decide), u 0 (by decide)⟩
set_option maxHeartbeats 4000000 in
set_option maxRecDepth 100000 in
theorem lw_st18 {s : State} {b : Nat} (hs : ∀ x ∈ flatC (Jvm.Cond.and given_1 narrow_1), x.before #[Value.ref b] s = true) (hnA : ∀ a : Nat, a < s.heap.size → ¬ (fun q : Nat => s.heap.size ≤ q) a) : ∃ K V : Nat, (va_O "java/lang/String" K (fun q => s.heap.size ≤ q) s s.heap ∧ va_OF "java/lang/String" "coder" "B" (.int 0) K (fun q => s.heap.size ≤ q) s s.heap ∧ va_OF "java/lang/String" "value" "[B" (.ref V) K (fun q => s.heap.size ≤ q) s s.heap ∧ va_T .byte V (oh_len 18) (fun i => .int (oh_byt 18 i)) (fun q => s.heap.size ≤ q) s s.heap) ∧ (Term.string "OneHeavyLoadModel" 219).eval #[Value.ref b] s none [] s = some (.ref K) := by
  have a1 : ∀ i : Nat, i < 1 → ([5] : List Nat).getD i 0 < 2 ^ 31 := by
    intro i hi
    obtain rfl : i = 0 := by omega
    decide
  have a2 : ∀ i : Nat, i < 1 → (Cond.eq (.length (.field (.string "OneHeavyLoadModel" 219) "java/lang/String" "value" "[B")) (.int (Int32.ofNat (([5] : List Nat).getD i 0)))).before #[Value.ref b] s = true := by
    intro i hi
    obtain rfl : i = 0 := by omega
    exact hs _ (lw_sc2 _ (List.mem_of_getElem? (i := 34) rfl))
  have a3 : ∀ i : Nat, i < 1 → ∀ j : Nat, j < ([5] : List Nat).getD i 0 → (Cond.eq (.elem (.field (.string "OneHeavyLoadModel" 219) "java/lang/String" "value" "[B") (.int (Int32.ofNat j))) (.int (([[109, 105, 108, 101, 115]] : List (List Int32)).getD i [] |>.getD j 0))).before #[Value.ref b] s = true := by
    intro i hi j hj
    obtain rfl : i = 0 := by omega
    have hj : j < 5 := hj
    rcases (show j = 0 ∨ j = 1 ∨ j = 2 ∨ j = 3 ∨ j = 4 by omega) with rfl | rfl | rfl | rfl | rfl
    · exact hs _ (lw_sc2 _ (List.mem_of_getElem? (i := 35) rfl))
    · exact hs _ (lw_sc2 _ (List.mem_of_getElem? (i := 36) rfl))
    · exact hs _ (lw_sc2 _ (List.mem_of_getElem? (i := 37) rfl))
    · exact hs _ (lw_sc2 _ (List.mem_of_getElem? (i := 38) rfl))
    · exact hs _ (lw_sc2 _ (List.mem_of_getElem? (i := 39) rfl))
  obtain ⟨K, V, S, u⟩ := vk_Sof (args := #[Value.ref b]) (s := s) (N := 1) (tm := fun _ => (Term.string "OneHeavyLoadModel" 219)) (len := [5]) (byt := [[109, 105, 108, 101, 115]]) (A := fun q => s.heap.size ≤ q) a1 (fun i hi => hs _ (lw_sc2 _ (List.mem_of_getElem? (i := 31) rfl))) (fun i hi => hs _ (lw_sc2 _ (List.mem_of_getElem? (i := 32) rfl))) (fun i hi => hs _ (lw_sc2 _ (List.mem_of_getElem? (i := 33) rfl))) a2 a3 (fun i j hi hj hne => absurd (show i = j by omega) hne) hnA
  exact ⟨K 0, V 0, S.1 0 (by decide), u 0 (by decide)⟩
set_option maxHeartbeats 4000000 in
set_option maxRecDepth 100000 in
theorem lw_st19 {s : State} {b : Nat} (hs : ∀ x ∈ flatC (Jvm.Cond.and given_1 narrow_1), x.before #[Value.ref b] s = true) (hnA : ∀ a : Nat, a < s.heap.size → ¬ (fun q : Nat => s.heap.size ≤ q) a) : ∃ K V : Nat, (va_O "java/lang/String" K (fun q => s.heap.size ≤ q) s s.heap ∧ va_OF "java/lang/String" "coder" "B" (.int 0) K (fun q => s.heap.size ≤ q) s s.heap ∧ va_OF "java/lang/String" "value" "[B" (.ref V) K (fun q => s.heap.size ≤ q) s s.heap ∧ va_T .byte V (oh_len 19) (fun i => .int (oh_byt 19 i)) (fun q => s.heap.size ≤ q) s s.heap) ∧ (Term.string "OneHeavyLoadModel" 221).eval #[Value.ref b] s none [] s = some (.ref K) := by
  have a1 : ∀ i : Nat, i < 1 → ([4] : List Nat).getD i 0 < 2 ^ 31 := by
    intro i hi
    obtain rfl : i = 0 := by omega
    decide
  have a2 : ∀ i : Nat, i < 1 → (Cond.eq (.length (.field (.string "OneHeavyLoadModel" 221) "java/lang/String" "value" "[B")) (.int (Int32.ofNat (([4] : List Nat).getD i 0)))).before #[Value.ref b] s = true := by
    intro i hi
    obtain rfl : i = 0 := by omega
    exact hs _ (lw_sc2 _ (List.mem_of_getElem? (i := 43) rfl))
  have a3 : ∀ i : Nat, i < 1 → ∀ j : Nat, j < ([4] : List Nat).getD i 0 → (Cond.eq (.elem (.field (.string "OneHeavyLoadModel" 221) "java/lang/String" "value" "[B") (.int (Int32.ofNat j))) (.int (([[114, 105, 115, 101]] : List (List Int32)).getD i [] |>.getD j 0))).before #[Value.ref b] s = true := by
    intro i hi j hj
    obtain rfl : i = 0 := by omega
    have hj : j < 4 := hj
    rcases (show j = 0 ∨ j = 1 ∨ j = 2 ∨ j = 3 by omega) with rfl | rfl | rfl | rfl
    · exact hs _ (lw_sc2 _ (List.mem_of_getElem? (i := 44) rfl))
    · exact hs _ (lw_sc2 _ (List.mem_of_getElem? (i := 45) rfl))
    · exact hs _ (lw_sc2 _ (List.mem_of_getElem? (i := 46) rfl))
    · exact hs _ (lw_sc2 _ (List.mem_of_getElem? (i := 47) rfl))
  obtain ⟨K, V, S, u⟩ := vk_Sof (args := #[Value.ref b]) (s := s) (N := 1) (tm := fun _ => (Term.string "OneHeavyLoadModel" 221)) (len := [4]) (byt := [[114, 105, 115, 101]]) (A := fun q => s.heap.size ≤ q) a1 (fun i hi => hs _ (lw_sc2 _ (List.mem_of_getElem? (i := 40) rfl))) (fun i hi => hs _ (lw_sc2 _ (List.mem_of_getElem? (i := 41) rfl))) (fun i hi => hs _ (lw_sc2 _ (List.mem_of_getElem? (i := 42) rfl))) a2 a3 (fun i j hi hj hne => absurd (show i = j by omega) hne) hnA
  exact ⟨K 0, V 0, S.1 0 (by decide), u 0 (by decide)⟩
set_option maxHeartbeats 4000000 in
set_option maxRecDepth 100000 in
theorem lw_st20 {s : State} {b : Nat} (hs : ∀ x ∈ flatC (Jvm.Cond.and given_1 narrow_1), x.before #[Value.ref b] s = true) (hnA : ∀ a : Nat, a < s.heap.size → ¬ (fun q : Nat => s.heap.size ≤ q) a) : ∃ K V : Nat, (va_O "java/lang/String" K (fun q => s.heap.size ≤ q) s s.heap ∧ va_OF "java/lang/String" "coder" "B" (.int 0) K (fun q => s.heap.size ≤ q) s s.heap ∧ va_OF "java/lang/String" "value" "[B" (.ref V) K (fun q => s.heap.size ≤ q) s s.heap ∧ va_T .byte V (oh_len 20) (fun i => .int (oh_byt 20 i)) (fun q => s.heap.size ≤ q) s s.heap) ∧ (Term.string "OneHeavyLoadModel" 226).eval #[Value.ref b] s none [] s = some (.ref K) := by
  have a1 : ∀ i : Nat, i < 1 → ([4] : List Nat).getD i 0 < 2 ^ 31 := by
    intro i hi
    obtain rfl : i = 0 := by omega
    decide
  have a2 : ∀ i : Nat, i < 1 → (Cond.eq (.length (.field (.string "OneHeavyLoadModel" 226) "java/lang/String" "value" "[B")) (.int (Int32.ofNat (([4] : List Nat).getD i 0)))).before #[Value.ref b] s = true := by
    intro i hi
    obtain rfl : i = 0 := by omega
    exact hs _ (lw_sc2 _ (List.mem_of_getElem? (i := 51) rfl))
  have a3 : ∀ i : Nat, i < 1 → ∀ j : Nat, j < ([4] : List Nat).getD i 0 → (Cond.eq (.elem (.field (.string "OneHeavyLoadModel" 226) "java/lang/String" "value" "[B") (.int (Int32.ofNat j))) (.int (([[116, 117, 114, 110]] : List (List Int32)).getD i [] |>.getD j 0))).before #[Value.ref b] s = true := by
    intro i hi j hj
    obtain rfl : i = 0 := by omega
    have hj : j < 4 := hj
    rcases (show j = 0 ∨ j = 1 ∨ j = 2 ∨ j = 3 by omega) with rfl | rfl | rfl | rfl
    · exact hs _ (lw_sc2 _ (List.mem_of_getElem? (i := 52) rfl))
    · exact hs _ (lw_sc2 _ (List.mem_of_getElem? (i := 53) rfl))
    · exact hs _ (lw_sc2 _ (List.mem_of_getElem? (i := 54) rfl))
    · exact hs _ (lw_sc2 _ (List.mem_of_getElem? (i := 55) rfl))
  obtain ⟨K, V, S, u⟩ := vk_Sof (args := #[Value.ref b]) (s := s) (N := 1) (tm := fun _ => (Term.string "OneHeavyLoadModel" 226)) (len := [4]) (byt := [[116, 117, 114, 110]]) (A := fun q => s.heap.size ≤ q) a1 (fun i hi => hs _ (lw_sc2 _ (List.mem_of_getElem? (i := 48) rfl))) (fun i hi => hs _ (lw_sc2 _ (List.mem_of_getElem? (i := 49) rfl))) (fun i hi => hs _ (lw_sc2 _ (List.mem_of_getElem? (i := 50) rfl))) a2 a3 (fun i j hi hj hne => absurd (show i = j by omega) hne) hnA
  exact ⟨K 0, V 0, S.1 0 (by decide), u 0 (by decide)⟩
set_option maxHeartbeats 4000000 in
set_option maxRecDepth 100000 in
theorem lw_st21 {s : State} {b : Nat} (hs : ∀ x ∈ flatC (Jvm.Cond.and given_1 narrow_1), x.before #[Value.ref b] s = true) (hnA : ∀ a : Nat, a < s.heap.size → ¬ (fun q : Nat => s.heap.size ≤ q) a) : ∃ K V : Nat, (va_O "java/lang/String" K (fun q => s.heap.size ≤ q) s s.heap ∧ va_OF "java/lang/String" "coder" "B" (.int 0) K (fun q => s.heap.size ≤ q) s s.heap ∧ va_OF "java/lang/String" "value" "[B" (.ref V) K (fun q => s.heap.size ≤ q) s s.heap ∧ va_T .byte V (oh_len 21) (fun i => .int (oh_byt 21 i)) (fun q => s.heap.size ≤ q) s s.heap) ∧ (Term.string "OneHeavyLoadModel" 228).eval #[Value.ref b] s none [] s = some (.ref K) := by
  have a1 : ∀ i : Nat, i < 1 → ([6] : List Nat).getD i 0 < 2 ^ 31 := by
    intro i hi
    obtain rfl : i = 0 := by omega
    decide
  have a2 : ∀ i : Nat, i < 1 → (Cond.eq (.length (.field (.string "OneHeavyLoadModel" 228) "java/lang/String" "value" "[B")) (.int (Int32.ofNat (([6] : List Nat).getD i 0)))).before #[Value.ref b] s = true := by
    intro i hi
    obtain rfl : i = 0 := by omega
    exact hs _ (lw_sc2 _ (List.mem_of_getElem? (i := 59) rfl))
  have a3 : ∀ i : Nat, i < 1 → ∀ j : Nat, j < ([6] : List Nat).getD i 0 → (Cond.eq (.elem (.field (.string "OneHeavyLoadModel" 228) "java/lang/String" "value" "[B") (.int (Int32.ofNat j))) (.int (([[112, 97, 114, 105, 115, 104]] : List (List Int32)).getD i [] |>.getD j 0))).before #[Value.ref b] s = true := by
    intro i hi j hj
    obtain rfl : i = 0 := by omega
    have hj : j < 6 := hj
    rcases (show j = 0 ∨ j = 1 ∨ j = 2 ∨ j = 3 ∨ j = 4 ∨ j = 5 by omega) with rfl | rfl | rfl | rfl | rfl | rfl
    · exact hs _ (lw_sc3 _ (List.mem_of_getElem? (i := 0) rfl))
    · exact hs _ (lw_sc3 _ (List.mem_of_getElem? (i := 1) rfl))
    · exact hs _ (lw_sc3 _ (List.mem_of_getElem? (i := 2) rfl))
    · exact hs _ (lw_sc3 _ (List.mem_of_getElem? (i := 3) rfl))
    · exact hs _ (lw_sc3 _ (List.mem_of_getElem? (i := 4) rfl))
    · exact hs _ (lw_sc3 _ (List.mem_of_getElem? (i := 5) rfl))
  obtain ⟨K, V, S, u⟩ := vk_Sof (args := #[Value.ref b]) (s := s) (N := 1) (tm := fun _ => (Term.string "OneHeavyLoadModel" 228)) (len := [6]) (byt := [[112, 97, 114, 105, 115, 104]]) (A := fun q => s.heap.size ≤ q) a1 (fun i hi => hs _ (lw_sc2 _ (List.mem_of_getElem? (i := 56) rfl))) (fun i hi => hs _ (lw_sc2 _ (List.mem_of_getElem? (i := 57) rfl))) (fun i hi => hs _ (lw_sc2 _ (List.mem_of_getElem? (i := 58) rfl))) a2 a3 (fun i j hi hj hne => absurd (show i = j by omega) hne) hnA
  exact ⟨K 0, V 0, S.1 0 (by decide), u 0 (by decide)⟩
set_option maxHeartbeats 4000000 in
set_option maxRecDepth 100000 in
theorem lw_st22 {s : State} {b : Nat} (hs : ∀ x ∈ flatC (Jvm.Cond.and given_1 narrow_1), x.before #[Value.ref b] s = true) (hnA : ∀ a : Nat, a < s.heap.size → ¬ (fun q : Nat => s.heap.size ≤ q) a) : ∃ K V : Nat, (va_O "java/lang/String" K (fun q => s.heap.size ≤ q) s s.heap ∧ va_OF "java/lang/String" "coder" "B" (.int 0) K (fun q => s.heap.size ≤ q) s s.heap ∧ va_OF "java/lang/String" "value" "[B" (.ref V) K (fun q => s.heap.size ≤ q) s s.heap ∧ va_T .byte V (oh_len 22) (fun i => .int (oh_byt 22 i)) (fun q => s.heap.size ≤ q) s s.heap) ∧ (Term.string "OneHeavyLoadModel" 205).eval #[Value.ref b] s none [] s = some (.ref K) := by
  have a1 : ∀ i : Nat, i < 1 → ([6] : List Nat).getD i 0 < 2 ^ 31 := by
    intro i hi
    obtain rfl : i = 0 := by omega
    decide
  have a2 : ∀ i : Nat, i < 1 → (Cond.eq (.length (.field (.string "OneHeavyLoadModel" 205) "java/lang/String" "value" "[B")) (.int (Int32.ofNat (([6] : List Nat).getD i 0)))).before #[Value.ref b] s = true := by
    intro i hi
    obtain rfl : i = 0 := by omega
    exact hs _ (lw_sc3 _ (List.mem_of_getElem? (i := 9) rfl))
  have a3 : ∀ i : Nat, i < 1 → ∀ j : Nat, j < ([6] : List Nat).getD i 0 → (Cond.eq (.elem (.field (.string "OneHeavyLoadModel" 205) "java/lang/String" "value" "[B") (.int (Int32.ofNat j))) (.int (([[98, 114, 105, 100, 103, 101]] : List (List Int32)).getD i [] |>.getD j 0))).before #[Value.ref b] s = true := by
    intro i hi j hj
    obtain rfl : i = 0 := by omega
    have hj : j < 6 := hj
    rcases (show j = 0 ∨ j = 1 ∨ j = 2 ∨ j = 3 ∨ j = 4 ∨ j = 5 by omega) with rfl | rfl | rfl | rfl | rfl | rfl
    · exact hs _ (lw_sc3 _ (List.mem_of_getElem? (i := 10) rfl))
    · exact hs _ (lw_sc3 _ (List.mem_of_getElem? (i := 11) rfl))
    · exact hs _ (lw_sc3 _ (List.mem_of_getElem? (i := 12) rfl))
    · exact hs _ (lw_sc3 _ (List.mem_of_getElem? (i := 13) rfl))
    · exact hs _ (lw_sc3 _ (List.mem_of_getElem? (i := 14) rfl))
    · exact hs _ (lw_sc3 _ (List.mem_of_getElem? (i := 15) rfl))
  obtain ⟨K, V, S, u⟩ := vk_Sof (args := #[Value.ref b]) (s := s) (N := 1) (tm := fun _ => (Term.string "OneHeavyLoadModel" 205)) (len := [6]) (byt := [[98, 114, 105, 100, 103, 101]]) (A := fun q => s.heap.size ≤ q) a1 (fun i hi => hs _ (lw_sc3 _ (List.mem_of_getElem? (i := 6) rfl))) (fun i hi => hs _ (lw_sc3 _ (List.mem_of_getElem? (i := 7) rfl))) (fun i hi => hs _ (lw_sc3 _ (List.mem_of_getElem? (i := 8) rfl))) a2 a3 (fun i j hi hj hne => absurd (show i = j by omega) hne) hnA
  exact ⟨K 0, V 0, S.1 0 (by decide), u 0 (by decide)⟩
set_option maxHeartbeats 4000000 in
set_option maxRecDepth 100000 in
theorem lw_st23 {s : State} {b : Nat} (hs : ∀ x ∈ flatC (Jvm.Cond.and given_1 narrow_1), x.before #[Value.ref b] s = true) (hnA : ∀ a : Nat, a < s.heap.size → ¬ (fun q : Nat => s.heap.size ≤ q) a) : ∃ K V : Nat, (va_O "java/lang/String" K (fun q => s.heap.size ≤ q) s s.heap ∧ va_OF "java/lang/String" "coder" "B" (.int 0) K (fun q => s.heap.size ≤ q) s s.heap ∧ va_OF "java/lang/String" "value" "[B" (.ref V) K (fun q => s.heap.size ≤ q) s s.heap ∧ va_T .byte V (oh_len 23) (fun i => .int (oh_byt 23 i)) (fun q => s.heap.size ≤ q) s s.heap) ∧ (Term.string "OneHeavyLoadModel" 230).eval #[Value.ref b] s none [] s = some (.ref K) := by
  have a1 : ∀ i : Nat, i < 1 → ([4] : List Nat).getD i 0 < 2 ^ 31 := by
    intro i hi
    obtain rfl : i = 0 := by omega
    decide
  have a2 : ∀ i : Nat, i < 1 → (Cond.eq (.length (.field (.string "OneHeavyLoadModel" 230) "java/lang/String" "value" "[B")) (.int (Int32.ofNat (([4] : List Nat).getD i 0)))).before #[Value.ref b] s = true := by
    intro i hi
    obtain rfl : i = 0 := by omega
    exact hs _ (lw_sc3 _ (List.mem_of_getElem? (i := 19) rfl))
  have a3 : ∀ i : Nat, i < 1 → ∀ j : Nat, j < ([4] : List Nat).getD i 0 → (Cond.eq (.elem (.field (.string "OneHeavyLoadModel" 230) "java/lang/String" "value" "[B") (.int (Int32.ofNat j))) (.int (([[107, 105, 110, 100]] : List (List Int32)).getD i [] |>.getD j 0))).before #[Value.ref b] s = true := by
    intro i hi j hj
    obtain rfl : i = 0 := by omega
    have hj : j < 4 := hj
    rcases (show j = 0 ∨ j = 1 ∨ j = 2 ∨ j = 3 by omega) with rfl | rfl | rfl | rfl
    · exact hs _ (lw_sc3 _ (List.mem_of_getElem? (i := 20) rfl))
    · exact hs _ (lw_sc3 _ (List.mem_of_getElem? (i := 21) rfl))
    · exact hs _ (lw_sc3 _ (List.mem_of_getElem? (i := 22) rfl))
    · exact hs _ (lw_sc3 _ (List.mem_of_getElem? (i := 23) rfl))
  obtain ⟨K, V, S, u⟩ := vk_Sof (args := #[Value.ref b]) (s := s) (N := 1) (tm := fun _ => (Term.string "OneHeavyLoadModel" 230)) (len := [4]) (byt := [[107, 105, 110, 100]]) (A := fun q => s.heap.size ≤ q) a1 (fun i hi => hs _ (lw_sc3 _ (List.mem_of_getElem? (i := 16) rfl))) (fun i hi => hs _ (lw_sc3 _ (List.mem_of_getElem? (i := 17) rfl))) (fun i hi => hs _ (lw_sc3 _ (List.mem_of_getElem? (i := 18) rfl))) a2 a3 (fun i j hi hj hne => absurd (show i = j by omega) hne) hnA
  exact ⟨K 0, V 0, S.1 0 (by decide), u 0 (by decide)⟩
set_option maxHeartbeats 4000000 in
set_option maxRecDepth 100000 in
theorem lw_st24 {s : State} {b : Nat} (hs : ∀ x ∈ flatC (Jvm.Cond.and given_1 narrow_1), x.before #[Value.ref b] s = true) (hnA : ∀ a : Nat, a < s.heap.size → ¬ (fun q : Nat => s.heap.size ≤ q) a) : ∃ K V : Nat, (va_O "java/lang/String" K (fun q => s.heap.size ≤ q) s s.heap ∧ va_OF "java/lang/String" "coder" "B" (.int 0) K (fun q => s.heap.size ≤ q) s s.heap ∧ va_OF "java/lang/String" "value" "[B" (.ref V) K (fun q => s.heap.size ≤ q) s s.heap ∧ va_T .byte V (oh_len 24) (fun i => .int (oh_byt 24 i)) (fun q => s.heap.size ≤ q) s s.heap) ∧ (Term.string "OneHeavyLoadModel" 232).eval #[Value.ref b] s none [] s = some (.ref K) := by
  have a1 : ∀ i : Nat, i < 1 → ([4] : List Nat).getD i 0 < 2 ^ 31 := by
    intro i hi
    obtain rfl : i = 0 := by omega
    decide
  have a2 : ∀ i : Nat, i < 1 → (Cond.eq (.length (.field (.string "OneHeavyLoadModel" 232) "java/lang/String" "value" "[B")) (.int (Int32.ofNat (([4] : List Nat).getD i 0)))).before #[Value.ref b] s = true := by
    intro i hi
    obtain rfl : i = 0 := by omega
    exact hs _ (lw_sc3 _ (List.mem_of_getElem? (i := 27) rfl))
  have a3 : ∀ i : Nat, i < 1 → ∀ j : Nat, j < ([4] : List Nat).getD i 0 → (Cond.eq (.elem (.field (.string "OneHeavyLoadModel" 232) "java/lang/String" "value" "[B") (.int (Int32.ofNat j))) (.int (([[115, 112, 97, 110]] : List (List Int32)).getD i [] |>.getD j 0))).before #[Value.ref b] s = true := by
    intro i hi j hj
    obtain rfl : i = 0 := by omega
    have hj : j < 4 := hj
    rcases (show j = 0 ∨ j = 1 ∨ j = 2 ∨ j = 3 by omega) with rfl | rfl | rfl | rfl
    · exact hs _ (lw_sc3 _ (List.mem_of_getElem? (i := 28) rfl))
    · exact hs _ (lw_sc3 _ (List.mem_of_getElem? (i := 29) rfl))
    · exact hs _ (lw_sc3 _ (List.mem_of_getElem? (i := 30) rfl))
    · exact hs _ (lw_sc3 _ (List.mem_of_getElem? (i := 31) rfl))
  obtain ⟨K, V, S, u⟩ := vk_Sof (args := #[Value.ref b]) (s := s) (N := 1) (tm := fun _ => (Term.string "OneHeavyLoadModel" 232)) (len := [4]) (byt := [[115, 112, 97, 110]]) (A := fun q => s.heap.size ≤ q) a1 (fun i hi => hs _ (lw_sc3 _ (List.mem_of_getElem? (i := 24) rfl))) (fun i hi => hs _ (lw_sc3 _ (List.mem_of_getElem? (i := 25) rfl))) (fun i hi => hs _ (lw_sc3 _ (List.mem_of_getElem? (i := 26) rfl))) a2 a3 (fun i j hi hj hne => absurd (show i = j by omega) hne) hnA
  exact ⟨K 0, V 0, S.1 0 (by decide), u 0 (by decide)⟩
set_option maxHeartbeats 4000000 in
set_option maxRecDepth 100000 in
theorem lw_st25 {s : State} {b : Nat} (hs : ∀ x ∈ flatC (Jvm.Cond.and given_1 narrow_1), x.before #[Value.ref b] s = true) (hnA : ∀ a : Nat, a < s.heap.size → ¬ (fun q : Nat => s.heap.size ≤ q) a) : ∃ K V : Nat, (va_O "java/lang/String" K (fun q => s.heap.size ≤ q) s s.heap ∧ va_OF "java/lang/String" "coder" "B" (.int 0) K (fun q => s.heap.size ≤ q) s s.heap ∧ va_OF "java/lang/String" "value" "[B" (.ref V) K (fun q => s.heap.size ≤ q) s s.heap ∧ va_T .byte V (oh_len 25) (fun i => .int (oh_byt 25 i)) (fun q => s.heap.size ≤ q) s s.heap) ∧ (Term.string "OneHeavyLoadModel" 234).eval #[Value.ref b] s none [] s = some (.ref K) := by
  have a1 : ∀ i : Nat, i < 1 → ([4] : List Nat).getD i 0 < 2 ^ 31 := by
    intro i hi
    obtain rfl : i = 0 := by omega
    decide
  have a2 : ∀ i : Nat, i < 1 → (Cond.eq (.length (.field (.string "OneHeavyLoadModel" 234) "java/lang/String" "value" "[B")) (.int (Int32.ofNat (([4] : List Nat).getD i 0)))).before #[Value.ref b] s = true := by
    intro i hi
    obtain rfl : i = 0 := by omega
    exact hs _ (lw_sc3 _ (List.mem_of_getElem? (i := 35) rfl))
  have a3 : ∀ i : Nat, i < 1 → ∀ j : Nat, j < ([4] : List Nat).getD i 0 → (Cond.eq (.elem (.field (.string "OneHeavyLoadModel" 234) "java/lang/String" "value" "[B") (.int (Int32.ofNat j))) (.int (([[97, 120, 108, 101]] : List (List Int32)).getD i [] |>.getD j 0))).before #[Value.ref b] s = true := by
    intro i hi j hj
    obtain rfl : i = 0 := by omega
    have hj : j < 4 := hj
    rcases (show j = 0 ∨ j = 1 ∨ j = 2 ∨ j = 3 by omega) with rfl | rfl | rfl | rfl
    · exact hs _ (lw_sc3 _ (List.mem_of_getElem? (i := 36) rfl))
    · exact hs _ (lw_sc3 _ (List.mem_of_getElem? (i := 37) rfl))
    · exact hs _ (lw_sc3 _ (List.mem_of_getElem? (i := 38) rfl))
    · exact hs _ (lw_sc3 _ (List.mem_of_getElem? (i := 39) rfl))
  obtain ⟨K, V, S, u⟩ := vk_Sof (args := #[Value.ref b]) (s := s) (N := 1) (tm := fun _ => (Term.string "OneHeavyLoadModel" 234)) (len := [4]) (byt := [[97, 120, 108, 101]]) (A := fun q => s.heap.size ≤ q) a1 (fun i hi => hs _ (lw_sc3 _ (List.mem_of_getElem? (i := 32) rfl))) (fun i hi => hs _ (lw_sc3 _ (List.mem_of_getElem? (i := 33) rfl))) (fun i hi => hs _ (lw_sc3 _ (List.mem_of_getElem? (i := 34) rfl))) a2 a3 (fun i j hi hj hne => absurd (show i = j by omega) hne) hnA
  exact ⟨K 0, V 0, S.1 0 (by decide), u 0 (by decide)⟩
set_option maxHeartbeats 4000000 in
set_option maxRecDepth 100000 in
theorem lw_st26 {s : State} {b : Nat} (hs : ∀ x ∈ flatC (Jvm.Cond.and given_1 narrow_1), x.before #[Value.ref b] s = true) (hnA : ∀ a : Nat, a < s.heap.size → ¬ (fun q : Nat => s.heap.size ≤ q) a) : ∃ K V : Nat, (va_O "java/lang/String" K (fun q => s.heap.size ≤ q) s s.heap ∧ va_OF "java/lang/String" "coder" "B" (.int 0) K (fun q => s.heap.size ≤ q) s s.heap ∧ va_OF "java/lang/String" "value" "[B" (.ref V) K (fun q => s.heap.size ≤ q) s s.heap ∧ va_T .byte V (oh_len 26) (fun i => .int (oh_byt 26 i)) (fun q => s.heap.size ≤ q) s s.heap) ∧ (Term.string "OneHeavyLoadModel" 236).eval #[Value.ref b] s none [] s = some (.ref K) := by
  have a1 : ∀ i : Nat, i < 1 → ([3] : List Nat).getD i 0 < 2 ^ 31 := by
    intro i hi
    obtain rfl : i = 0 := by omega
    decide
  have a2 : ∀ i : Nat, i < 1 → (Cond.eq (.length (.field (.string "OneHeavyLoadModel" 236) "java/lang/String" "value" "[B")) (.int (Int32.ofNat (([3] : List Nat).getD i 0)))).before #[Value.ref b] s = true := by
    intro i hi
    obtain rfl : i = 0 := by omega
    exact hs _ (lw_sc3 _ (List.mem_of_getElem? (i := 43) rfl))
  have a3 : ∀ i : Nat, i < 1 → ∀ j : Nat, j < ([3] : List Nat).getD i 0 → (Cond.eq (.elem (.field (.string "OneHeavyLoadModel" 236) "java/lang/String" "value" "[B") (.int (Int32.ofNat j))) (.int (([[97, 108, 108]] : List (List Int32)).getD i [] |>.getD j 0))).before #[Value.ref b] s = true := by
    intro i hi j hj
    obtain rfl : i = 0 := by omega
    have hj : j < 3 := hj
    rcases (show j = 0 ∨ j = 1 ∨ j = 2 by omega) with rfl | rfl | rfl
    · exact hs _ (lw_sc3 _ (List.mem_of_getElem? (i := 44) rfl))
    · exact hs _ (lw_sc3 _ (List.mem_of_getElem? (i := 45) rfl))
    · exact hs _ (lw_sc3 _ (List.mem_of_getElem? (i := 46) rfl))
  obtain ⟨K, V, S, u⟩ := vk_Sof (args := #[Value.ref b]) (s := s) (N := 1) (tm := fun _ => (Term.string "OneHeavyLoadModel" 236)) (len := [3]) (byt := [[97, 108, 108]]) (A := fun q => s.heap.size ≤ q) a1 (fun i hi => hs _ (lw_sc3 _ (List.mem_of_getElem? (i := 40) rfl))) (fun i hi => hs _ (lw_sc3 _ (List.mem_of_getElem? (i := 41) rfl))) (fun i hi => hs _ (lw_sc3 _ (List.mem_of_getElem? (i := 42) rfl))) a2 a3 (fun i j hi hj hne => absurd (show i = j by omega) hne) hnA
  exact ⟨K 0, V 0, S.1 0 (by decide), u 0 (by decide)⟩
set_option maxHeartbeats 4000000 in
set_option maxRecDepth 100000 in
theorem lw_st27 {s : State} {b : Nat} (hs : ∀ x ∈ flatC (Jvm.Cond.and given_1 narrow_1), x.before #[Value.ref b] s = true) (hnA : ∀ a : Nat, a < s.heap.size → ¬ (fun q : Nat => s.heap.size ≤ q) a) : ∃ K V : Nat, (va_O "java/lang/String" K (fun q => s.heap.size ≤ q) s s.heap ∧ va_OF "java/lang/String" "coder" "B" (.int 0) K (fun q => s.heap.size ≤ q) s s.heap ∧ va_OF "java/lang/String" "value" "[B" (.ref V) K (fun q => s.heap.size ≤ q) s s.heap ∧ va_T .byte V (oh_len 27) (fun i => .int (oh_byt 27 i)) (fun q => s.heap.size ≤ q) s s.heap) ∧ (Term.string "OneHeavyLoadModel" 238).eval #[Value.ref b] s none [] s = some (.ref K) := by
  have a1 : ∀ i : Nat, i < 1 → ([4] : List Nat).getD i 0 < 2 ^ 31 := by
    intro i hi
    obtain rfl : i = 0 := by omega
    decide
  have a2 : ∀ i : Nat, i < 1 → (Cond.eq (.length (.field (.string "OneHeavyLoadModel" 238) "java/lang/String" "value" "[B")) (.int (Int32.ofNat (([4] : List Nat).getD i 0)))).before #[Value.ref b] s = true := by
    intro i hi
    obtain rfl : i = 0 := by omega
    exact hs _ (lw_sc3 _ (List.mem_of_getElem? (i := 50) rfl))
  have a3 : ∀ i : Nat, i < 1 → ∀ j : Nat, j < ([4] : List Nat).getD i 0 → (Cond.eq (.elem (.field (.string "OneHeavyLoadModel" 238) "java/lang/String" "value" "[B") (.int (Int32.ofNat j))) (.int (([[112, 114, 111, 112]] : List (List Int32)).getD i [] |>.getD j 0))).before #[Value.ref b] s = true := by
    intro i hi j hj
    obtain rfl : i = 0 := by omega
    have hj : j < 4 := hj
    rcases (show j = 0 ∨ j = 1 ∨ j = 2 ∨ j = 3 by omega) with rfl | rfl | rfl | rfl
    · exact hs _ (lw_sc3 _ (List.mem_of_getElem? (i := 51) rfl))
    · exact hs _ (lw_sc3 _ (List.mem_of_getElem? (i := 52) rfl))
    · exact hs _ (lw_sc3 _ (List.mem_of_getElem? (i := 53) rfl))
    · exact hs _ (lw_sc3 _ (List.mem_of_getElem? (i := 54) rfl))
  obtain ⟨K, V, S, u⟩ := vk_Sof (args := #[Value.ref b]) (s := s) (N := 1) (tm := fun _ => (Term.string "OneHeavyLoadModel" 238)) (len := [4]) (byt := [[112, 114, 111, 112]]) (A := fun q => s.heap.size ≤ q) a1 (fun i hi => hs _ (lw_sc3 _ (List.mem_of_getElem? (i := 47) rfl))) (fun i hi => hs _ (lw_sc3 _ (List.mem_of_getElem? (i := 48) rfl))) (fun i hi => hs _ (lw_sc3 _ (List.mem_of_getElem? (i := 49) rfl))) a2 a3 (fun i j hi hj hne => absurd (show i = j by omega) hne) hnA
  exact ⟨K 0, V 0, S.1 0 (by decide), u 0 (by decide)⟩
set_option maxHeartbeats 4000000 in
set_option maxRecDepth 100000 in
theorem lw_st28 {s : State} {b : Nat} (hs : ∀ x ∈ flatC (Jvm.Cond.and given_1 narrow_1), x.before #[Value.ref b] s = true) (hnA : ∀ a : Nat, a < s.heap.size → ¬ (fun q : Nat => s.heap.size ≤ q) a) : ∃ K V : Nat, (va_O "java/lang/String" K (fun q => s.heap.size ≤ q) s s.heap ∧ va_OF "java/lang/String" "coder" "B" (.int 0) K (fun q => s.heap.size ≤ q) s s.heap ∧ va_OF "java/lang/String" "value" "[B" (.ref V) K (fun q => s.heap.size ≤ q) s s.heap ∧ va_T .byte V (oh_len 28) (fun i => .int (oh_byt 28 i)) (fun q => s.heap.size ≤ q) s s.heap) ∧ (Term.string "OneHeavyLoadModel" 209).eval #[Value.ref b] s none [] s = some (.ref K) := by
  have a1 : ∀ i : Nat, i < 1 → ([6] : List Nat).getD i 0 < 2 ^ 31 := by
    intro i hi
    obtain rfl : i = 0 := by omega
    decide
  have a2 : ∀ i : Nat, i < 1 → (Cond.eq (.length (.field (.string "OneHeavyLoadModel" 209) "java/lang/String" "value" "[B")) (.int (Int32.ofNat (([6] : List Nat).getD i 0)))).before #[Value.ref b] s = true := by
    intro i hi
    obtain rfl : i = 0 := by omega
    exact hs _ (lw_sc3 _ (List.mem_of_getElem? (i := 58) rfl))
  have a3 : ∀ i : Nat, i < 1 → ∀ j : Nat, j < ([6] : List Nat).getD i 0 → (Cond.eq (.elem (.field (.string "OneHeavyLoadModel" 209) "java/lang/String" "value" "[B") (.int (Int32.ofNat j))) (.int (([[119, 97, 103, 103, 111, 110]] : List (List Int32)).getD i [] |>.getD j 0))).before #[Value.ref b] s = true := by
    intro i hi j hj
    obtain rfl : i = 0 := by omega
    have hj : j < 6 := hj
    rcases (show j = 0 ∨ j = 1 ∨ j = 2 ∨ j = 3 ∨ j = 4 ∨ j = 5 by omega) with rfl | rfl | rfl | rfl | rfl | rfl
    · exact hs _ (lw_sc3 _ (List.mem_of_getElem? (i := 59) rfl))
    · exact hs _ (lw_sc4 _ (List.mem_of_getElem? (i := 0) rfl))
    · exact hs _ (lw_sc4 _ (List.mem_of_getElem? (i := 1) rfl))
    · exact hs _ (lw_sc4 _ (List.mem_of_getElem? (i := 2) rfl))
    · exact hs _ (lw_sc4 _ (List.mem_of_getElem? (i := 3) rfl))
    · exact hs _ (lw_sc4 _ (List.mem_of_getElem? (i := 4) rfl))
  obtain ⟨K, V, S, u⟩ := vk_Sof (args := #[Value.ref b]) (s := s) (N := 1) (tm := fun _ => (Term.string "OneHeavyLoadModel" 209)) (len := [6]) (byt := [[119, 97, 103, 103, 111, 110]]) (A := fun q => s.heap.size ≤ q) a1 (fun i hi => hs _ (lw_sc3 _ (List.mem_of_getElem? (i := 55) rfl))) (fun i hi => hs _ (lw_sc3 _ (List.mem_of_getElem? (i := 56) rfl))) (fun i hi => hs _ (lw_sc3 _ (List.mem_of_getElem? (i := 57) rfl))) a2 a3 (fun i j hi hj hne => absurd (show i = j by omega) hne) hnA
  exact ⟨K 0, V 0, S.1 0 (by decide), u 0 (by decide)⟩
set_option maxHeartbeats 4000000 in
set_option maxRecDepth 100000 in
theorem lw_st29 {s : State} {b : Nat} (hs : ∀ x ∈ flatC (Jvm.Cond.and given_1 narrow_1), x.before #[Value.ref b] s = true) (hnA : ∀ a : Nat, a < s.heap.size → ¬ (fun q : Nat => s.heap.size ≤ q) a) : ∃ K V : Nat, (va_O "java/lang/String" K (fun q => s.heap.size ≤ q) s s.heap ∧ va_OF "java/lang/String" "coder" "B" (.int 0) K (fun q => s.heap.size ≤ q) s s.heap ∧ va_OF "java/lang/String" "value" "[B" (.ref V) K (fun q => s.heap.size ≤ q) s s.heap ∧ va_T .byte V (oh_len 29) (fun i => .int (oh_byt 29 i)) (fun q => s.heap.size ≤ q) s s.heap) ∧ (Term.string "OneHeavyLoadModel" 210).eval #[Value.ref b] s none [] s = some (.ref K) := by
  have a1 : ∀ i : Nat, i < 1 → ([5] : List Nat).getD i 0 < 2 ^ 31 := by
    intro i hi
    obtain rfl : i = 0 := by omega
    decide
  have a2 : ∀ i : Nat, i < 1 → (Cond.eq (.length (.field (.string "OneHeavyLoadModel" 210) "java/lang/String" "value" "[B")) (.int (Int32.ofNat (([5] : List Nat).getD i 0)))).before #[Value.ref b] s = true := by
    intro i hi
    obtain rfl : i = 0 := by omega
    exact hs _ (lw_sc4 _ (List.mem_of_getElem? (i := 8) rfl))
  have a3 : ∀ i : Nat, i < 1 → ∀ j : Nat, j < ([5] : List Nat).getD i 0 → (Cond.eq (.elem (.field (.string "OneHeavyLoadModel" 210) "java/lang/String" "value" "[B") (.int (Int32.ofNat j))) (.int (([[115, 112, 97, 99, 101]] : List (List Int32)).getD i [] |>.getD j 0))).before #[Value.ref b] s = true := by
    intro i hi j hj
    obtain rfl : i = 0 := by omega
    have hj : j < 5 := hj
    rcases (show j = 0 ∨ j = 1 ∨ j = 2 ∨ j = 3 ∨ j = 4 by omega) with rfl | rfl | rfl | rfl | rfl
    · exact hs _ (lw_sc4 _ (List.mem_of_getElem? (i := 9) rfl))
    · exact hs _ (lw_sc4 _ (List.mem_of_getElem? (i := 10) rfl))
    · exact hs _ (lw_sc4 _ (List.mem_of_getElem? (i := 11) rfl))
    · exact hs _ (lw_sc4 _ (List.mem_of_getElem? (i := 12) rfl))
    · exact hs _ (lw_sc4 _ (List.mem_of_getElem? (i := 13) rfl))
  obtain ⟨K, V, S, u⟩ := vk_Sof (args := #[Value.ref b]) (s := s) (N := 1) (tm := fun _ => (Term.string "OneHeavyLoadModel" 210)) (len := [5]) (byt := [[115, 112, 97, 99, 101]]) (A := fun q => s.heap.size ≤ q) a1 (fun i hi => hs _ (lw_sc4 _ (List.mem_of_getElem? (i := 5) rfl))) (fun i hi => hs _ (lw_sc4 _ (List.mem_of_getElem? (i := 6) rfl))) (fun i hi => hs _ (lw_sc4 _ (List.mem_of_getElem? (i := 7) rfl))) a2 a3 (fun i j hi hj hne => absurd (show i = j by omega) hne) hnA
  exact ⟨K 0, V 0, S.1 0 (by decide), u 0 (by decide)⟩
set_option maxHeartbeats 4000000 in
set_option maxRecDepth 100000 in
theorem lw_st30 {s : State} {b : Nat} (hs : ∀ x ∈ flatC (Jvm.Cond.and given_1 narrow_1), x.before #[Value.ref b] s = true) (hnA : ∀ a : Nat, a < s.heap.size → ¬ (fun q : Nat => s.heap.size ≤ q) a) : ∃ K V : Nat, (va_O "java/lang/String" K (fun q => s.heap.size ≤ q) s s.heap ∧ va_OF "java/lang/String" "coder" "B" (.int 0) K (fun q => s.heap.size ≤ q) s s.heap ∧ va_OF "java/lang/String" "value" "[B" (.ref V) K (fun q => s.heap.size ≤ q) s s.heap ∧ va_T .byte V (oh_len 30) (fun i => .int (oh_byt 30 i)) (fun q => s.heap.size ≤ q) s s.heap) ∧ (Term.string "OneHeavyLoadModel" 212).eval #[Value.ref b] s none [] s = some (.ref K) := by
  have a1 : ∀ i : Nat, i < 1 → ([4] : List Nat).getD i 0 < 2 ^ 31 := by
    intro i hi
    obtain rfl : i = 0 := by omega
    decide
  have a2 : ∀ i : Nat, i < 1 → (Cond.eq (.length (.field (.string "OneHeavyLoadModel" 212) "java/lang/String" "value" "[B")) (.int (Int32.ofNat (([4] : List Nat).getD i 0)))).before #[Value.ref b] s = true := by
    intro i hi
    obtain rfl : i = 0 := by omega
    exact hs _ (lw_sc4 _ (List.mem_of_getElem? (i := 17) rfl))
  have a3 : ∀ i : Nat, i < 1 → ∀ j : Nat, j < ([4] : List Nat).getD i 0 → (Cond.eq (.elem (.field (.string "OneHeavyLoadModel" 212) "java/lang/String" "value" "[B") (.int (Int32.ofNat j))) (.int (([[116, 97, 114, 101]] : List (List Int32)).getD i [] |>.getD j 0))).before #[Value.ref b] s = true := by
    intro i hi j hj
    obtain rfl : i = 0 := by omega
    have hj : j < 4 := hj
    rcases (show j = 0 ∨ j = 1 ∨ j = 2 ∨ j = 3 by omega) with rfl | rfl | rfl | rfl
    · exact hs _ (lw_sc4 _ (List.mem_of_getElem? (i := 18) rfl))
    · exact hs _ (lw_sc4 _ (List.mem_of_getElem? (i := 19) rfl))
    · exact hs _ (lw_sc4 _ (List.mem_of_getElem? (i := 20) rfl))
    · exact hs _ (lw_sc4 _ (List.mem_of_getElem? (i := 21) rfl))
  obtain ⟨K, V, S, u⟩ := vk_Sof (args := #[Value.ref b]) (s := s) (N := 1) (tm := fun _ => (Term.string "OneHeavyLoadModel" 212)) (len := [4]) (byt := [[116, 97, 114, 101]]) (A := fun q => s.heap.size ≤ q) a1 (fun i hi => hs _ (lw_sc4 _ (List.mem_of_getElem? (i := 14) rfl))) (fun i hi => hs _ (lw_sc4 _ (List.mem_of_getElem? (i := 15) rfl))) (fun i hi => hs _ (lw_sc4 _ (List.mem_of_getElem? (i := 16) rfl))) a2 a3 (fun i j hi hj hne => absurd (show i = j by omega) hne) hnA
  exact ⟨K 0, V 0, S.1 0 (by decide), u 0 (by decide)⟩
set_option maxHeartbeats 4000000 in
set_option maxRecDepth 100000 in
theorem lw_st31 {s : State} {b : Nat} (hs : ∀ x ∈ flatC (Jvm.Cond.and given_1 narrow_1), x.before #[Value.ref b] s = true) (hnA : ∀ a : Nat, a < s.heap.size → ¬ (fun q : Nat => s.heap.size ≤ q) a) : ∃ K V : Nat, (va_O "java/lang/String" K (fun q => s.heap.size ≤ q) s s.heap ∧ va_OF "java/lang/String" "coder" "B" (.int 0) K (fun q => s.heap.size ≤ q) s s.heap ∧ va_OF "java/lang/String" "value" "[B" (.ref V) K (fun q => s.heap.size ≤ q) s s.heap ∧ va_T .byte V (oh_len 31) (fun i => .int (oh_byt 31 i)) (fun q => s.heap.size ≤ q) s s.heap) ∧ (Term.string "OneHeavyLoadModel" 214).eval #[Value.ref b] s none [] s = some (.ref K) := by
  have a1 : ∀ i : Nat, i < 1 → ([4] : List Nat).getD i 0 < 2 ^ 31 := by
    intro i hi
    obtain rfl : i = 0 := by omega
    decide
  have a2 : ∀ i : Nat, i < 1 → (Cond.eq (.length (.field (.string "OneHeavyLoadModel" 214) "java/lang/String" "value" "[B")) (.int (Int32.ofNat (([4] : List Nat).getD i 0)))).before #[Value.ref b] s = true := by
    intro i hi
    obtain rfl : i = 0 := by omega
    exact hs _ (lw_sc4 _ (List.mem_of_getElem? (i := 25) rfl))
  have a3 : ∀ i : Nat, i < 1 → ∀ j : Nat, j < ([4] : List Nat).getD i 0 → (Cond.eq (.elem (.field (.string "OneHeavyLoadModel" 214) "java/lang/String" "value" "[B") (.int (Int32.ofNat j))) (.int (([[112, 97, 114, 116]] : List (List Int32)).getD i [] |>.getD j 0))).before #[Value.ref b] s = true := by
    intro i hi j hj
    obtain rfl : i = 0 := by omega
    have hj : j < 4 := hj
    rcases (show j = 0 ∨ j = 1 ∨ j = 2 ∨ j = 3 by omega) with rfl | rfl | rfl | rfl
    · exact hs _ (lw_sc4 _ (List.mem_of_getElem? (i := 26) rfl))
    · exact hs _ (lw_sc4 _ (List.mem_of_getElem? (i := 27) rfl))
    · exact hs _ (lw_sc4 _ (List.mem_of_getElem? (i := 28) rfl))
    · exact hs _ (lw_sc4 _ (List.mem_of_getElem? (i := 29) rfl))
  obtain ⟨K, V, S, u⟩ := vk_Sof (args := #[Value.ref b]) (s := s) (N := 1) (tm := fun _ => (Term.string "OneHeavyLoadModel" 214)) (len := [4]) (byt := [[112, 97, 114, 116]]) (A := fun q => s.heap.size ≤ q) a1 (fun i hi => hs _ (lw_sc4 _ (List.mem_of_getElem? (i := 22) rfl))) (fun i hi => hs _ (lw_sc4 _ (List.mem_of_getElem? (i := 23) rfl))) (fun i hi => hs _ (lw_sc4 _ (List.mem_of_getElem? (i := 24) rfl))) a2 a3 (fun i j hi hj hne => absurd (show i = j by omega) hne) hnA
  exact ⟨K 0, V 0, S.1 0 (by decide), u 0 (by decide)⟩
set_option maxHeartbeats 4000000 in
set_option maxRecDepth 100000 in
theorem lw_st32 {s : State} {b : Nat} (hs : ∀ x ∈ flatC (Jvm.Cond.and given_1 narrow_1), x.before #[Value.ref b] s = true) (hnA : ∀ a : Nat, a < s.heap.size → ¬ (fun q : Nat => s.heap.size ≤ q) a) : ∃ K V : Nat, (va_O "java/lang/String" K (fun q => s.heap.size ≤ q) s s.heap ∧ va_OF "java/lang/String" "coder" "B" (.int 0) K (fun q => s.heap.size ≤ q) s s.heap ∧ va_OF "java/lang/String" "value" "[B" (.ref V) K (fun q => s.heap.size ≤ q) s s.heap ∧ va_T .byte V (oh_len 32) (fun i => .int (oh_byt 32 i)) (fun q => s.heap.size ≤ q) s s.heap) ∧ (Term.string "OneHeavyLoadModel" 215).eval #[Value.ref b] s none [] s = some (.ref K) := by
  have a1 : ∀ i : Nat, i < 1 → ([4] : List Nat).getD i 0 < 2 ^ 31 := by
    intro i hi
    obtain rfl : i = 0 := by omega
    decide
  have a2 : ∀ i : Nat, i < 1 → (Cond.eq (.length (.field (.string "OneHeavyLoadModel" 215) "java/lang/String" "value" "[B")) (.int (Int32.ofNat (([4] : List Nat).getD i 0)))).before #[Value.ref b] s = true := by
    intro i hi
    obtain rfl : i = 0 := by omega
    exact hs _ (lw_sc4 _ (List.mem_of_getElem? (i := 33) rfl))
  have a3 : ∀ i : Nat, i < 1 → ∀ j : Nat, j < ([4] : List Nat).getD i 0 → (Cond.eq (.elem (.field (.string "OneHeavyLoadModel" 215) "java/lang/String" "value" "[B") (.int (Int32.ofNat j))) (.int (([[108, 111, 97, 100]] : List (List Int32)).getD i [] |>.getD j 0))).before #[Value.ref b] s = true := by
    intro i hi j hj
    obtain rfl : i = 0 := by omega
    have hj : j < 4 := hj
    rcases (show j = 0 ∨ j = 1 ∨ j = 2 ∨ j = 3 by omega) with rfl | rfl | rfl | rfl
    · exact hs _ (lw_sc4 _ (List.mem_of_getElem? (i := 34) rfl))
    · exact hs _ (lw_sc4 _ (List.mem_of_getElem? (i := 35) rfl))
    · exact hs _ (lw_sc4 _ (List.mem_of_getElem? (i := 36) rfl))
    · exact hs _ (lw_sc4 _ (List.mem_of_getElem? (i := 37) rfl))
  obtain ⟨K, V, S, u⟩ := vk_Sof (args := #[Value.ref b]) (s := s) (N := 1) (tm := fun _ => (Term.string "OneHeavyLoadModel" 215)) (len := [4]) (byt := [[108, 111, 97, 100]]) (A := fun q => s.heap.size ≤ q) a1 (fun i hi => hs _ (lw_sc4 _ (List.mem_of_getElem? (i := 30) rfl))) (fun i hi => hs _ (lw_sc4 _ (List.mem_of_getElem? (i := 31) rfl))) (fun i hi => hs _ (lw_sc4 _ (List.mem_of_getElem? (i := 32) rfl))) a2 a3 (fun i j hi hj hne => absurd (show i = j by omega) hne) hnA
  exact ⟨K 0, V 0, S.1 0 (by decide), u 0 (by decide)⟩
set_option maxHeartbeats 4000000 in
set_option maxRecDepth 100000 in
theorem lw_st33 {s : State} {b : Nat} (hs : ∀ x ∈ flatC (Jvm.Cond.and given_1 narrow_1), x.before #[Value.ref b] s = true) (hnA : ∀ a : Nat, a < s.heap.size → ¬ (fun q : Nat => s.heap.size ≤ q) a) : ∃ K V : Nat, (va_O "java/lang/String" K (fun q => s.heap.size ≤ q) s s.heap ∧ va_OF "java/lang/String" "coder" "B" (.int 0) K (fun q => s.heap.size ≤ q) s s.heap ∧ va_OF "java/lang/String" "value" "[B" (.ref V) K (fun q => s.heap.size ≤ q) s s.heap ∧ va_T .byte V (oh_len 33) (fun i => .int (oh_byt 33 i)) (fun q => s.heap.size ≤ q) s s.heap) ∧ (Term.string "OneHeavyLoadModel" 217).eval #[Value.ref b] s none [] s = some (.ref K) := by
  have a1 : ∀ i : Nat, i < 1 → ([4] : List Nat).getD i 0 < 2 ^ 31 := by
    intro i hi
    obtain rfl : i = 0 := by omega
    decide
  have a2 : ∀ i : Nat, i < 1 → (Cond.eq (.length (.field (.string "OneHeavyLoadModel" 217) "java/lang/String" "value" "[B")) (.int (Int32.ofNat (([4] : List Nat).getD i 0)))).before #[Value.ref b] s = true := by
    intro i hi
    obtain rfl : i = 0 := by omega
    exact hs _ (lw_sc4 _ (List.mem_of_getElem? (i := 41) rfl))
  have a3 : ∀ i : Nat, i < 1 → ∀ j : Nat, j < ([4] : List Nat).getD i 0 → (Cond.eq (.elem (.field (.string "OneHeavyLoadModel" 217) "java/lang/String" "value" "[B") (.int (Int32.ofNat j))) (.int (([[109, 105, 108, 101]] : List (List Int32)).getD i [] |>.getD j 0))).before #[Value.ref b] s = true := by
    intro i hi j hj
    obtain rfl : i = 0 := by omega
    have hj : j < 4 := hj
    rcases (show j = 0 ∨ j = 1 ∨ j = 2 ∨ j = 3 by omega) with rfl | rfl | rfl | rfl
    · exact hs _ (lw_sc4 _ (List.mem_of_getElem? (i := 42) rfl))
    · exact hs _ (lw_sc4 _ (List.mem_of_getElem? (i := 43) rfl))
    · exact hs _ (lw_sc4 _ (List.mem_of_getElem? (i := 44) rfl))
    · exact hs _ (lw_sc4 _ (List.mem_of_getElem? (i := 45) rfl))
  obtain ⟨K, V, S, u⟩ := vk_Sof (args := #[Value.ref b]) (s := s) (N := 1) (tm := fun _ => (Term.string "OneHeavyLoadModel" 217)) (len := [4]) (byt := [[109, 105, 108, 101]]) (A := fun q => s.heap.size ≤ q) a1 (fun i hi => hs _ (lw_sc4 _ (List.mem_of_getElem? (i := 38) rfl))) (fun i hi => hs _ (lw_sc4 _ (List.mem_of_getElem? (i := 39) rfl))) (fun i hi => hs _ (lw_sc4 _ (List.mem_of_getElem? (i := 40) rfl))) a2 a3 (fun i j hi hj hne => absurd (show i = j by omega) hne) hnA
  exact ⟨K 0, V 0, S.1 0 (by decide), u 0 (by decide)⟩
set_option maxRecDepth 100000 in
set_option maxHeartbeats 4000000 in
theorem lw_ec0 : ∀ x ∈ ([Cond.arrayOf (Term.static "OneHeavyLoad" "ROOM" "[I") .int, Cond.eq (.length (Term.static "OneHeavyLoad" "ROOM" "[I")) (.int (Int32.ofNat 4)), Cond.eq (.elem (Term.static "OneHeavyLoad" "ROOM" "[I") (.int (Int32.ofNat 0))) (.int 24), Cond.eq (.elem (Term.static "OneHeavyLoad" "ROOM" "[I") (.int (Int32.ofNat 1))) (.int 16), Cond.eq (.elem (Term.static "OneHeavyLoad" "ROOM" "[I") (.int (Int32.ofNat 2))) (.int 5), Cond.eq (.elem (Term.static "OneHeavyLoad" "ROOM" "[I") (.int (Int32.ofNat 3))) (.int 5), Cond.arrayOf (Term.static "OneHeavyLoad" "TAKEN_FOR" "[I") .int, Cond.eq (.length (Term.static "OneHeavyLoad" "TAKEN_FOR" "[I")) (.int (Int32.ofNat 6)), Cond.eq (.elem (Term.static "OneHeavyLoad" "TAKEN_FOR" "[I") (.int (Int32.ofNat 0))) (.int 1), Cond.eq (.elem (Term.static "OneHeavyLoad" "TAKEN_FOR" "[I") (.int (Int32.ofNat 1))) (.int 3), Cond.eq (.elem (Term.static "OneHeavyLoad" "TAKEN_FOR" "[I") (.int (Int32.ofNat 2))) (.int 7), Cond.eq (.elem (Term.static "OneHeavyLoad" "TAKEN_FOR" "[I") (.int (Int32.ofNat 3))) (.int 9), Cond.eq (.elem (Term.static "OneHeavyLoad" "TAKEN_FOR" "[I") (.int (Int32.ofNat 4))) (.int 17), Cond.eq (.elem (Term.static "OneHeavyLoad" "TAKEN_FOR" "[I") (.int (Int32.ofNat 5))) (.int 49), Cond.arrayOf (Term.static "OneHeavyLoad" "MAX_SETTING" "[I") .int, Cond.eq (.length (Term.static "OneHeavyLoad" "MAX_SETTING" "[I")) (.int (Int32.ofNat 3)), Cond.eq (.elem (Term.static "OneHeavyLoad" "MAX_SETTING" "[I") (.int (Int32.ofNat 0))) (.int 900), Cond.eq (.elem (Term.static "OneHeavyLoad" "MAX_SETTING" "[I") (.int (Int32.ofNat 1))) (.int 99), Cond.eq (.elem (Term.static "OneHeavyLoad" "MAX_SETTING" "[I") (.int (Int32.ofNat 2))) (.int 1), Cond.eq (Term.static "java/lang/String" "COMPACT_STRINGS" "Z") (.int 1), Cond.isRef (Term.static "jdk/internal/util/Preconditions" "SIOOBE_FORMATTER" "Ljava/util/function/BiFunction;")] : List Cond), x ∈ flatC (Jvm.Cond.and given_1 narrow_1) := ph_inn (gs := [5, 0, 0, 0, 0, 0, 1, 0, 0, 0, 0, 0, 0, 0, 1, 0, 0, 0, 0, 0, 0]) (by decide +kernel)
set_option maxRecDepth 100000 in
set_option maxHeartbeats 4000000 in
theorem lw_xc0 : ∀ x ∈ ([(Jvm.Cond.fieldLinkNest "OneHeavyLoad$Land" (9 : Nat) "OneHeavyLoad" "ROOM" "[I" "OneHeavyLoad"), (Jvm.Cond.laysStatic "OneHeavyLoad" "ROOM" "[I"), (Jvm.Cond.methodLinkNest "OneHeavyLoad$Ways" (17 : Nat) ({ cls := "OneHeavyLoad$Pack", name := "<init>", desc := "()V" } : Jvm.MethodName) "OneHeavyLoad"), (Jvm.Cond.fieldLinkNest "OneHeavyLoad$Ways" (22 : Nat) "OneHeavyLoad" "ROOM" "[I" "OneHeavyLoad"), (Jvm.Cond.fieldLinkNest "OneHeavyLoad$Reader" (19 : Nat) "OneHeavyLoad" "ROOM" "[I" "OneHeavyLoad"), (Jvm.Cond.methodLinkNest "OneHeavyLoad$Shelves" (36 : Nat) ({ cls := "OneHeavyLoad", name := "within", desc := "(III)Z" } : Jvm.MethodName) "OneHeavyLoad"), (Jvm.Cond.fieldLinkNest "OneHeavyLoad$Land" (57 : Nat) "OneHeavyLoad" "TAKEN_FOR" "[I" "OneHeavyLoad"), (Jvm.Cond.laysStatic "OneHeavyLoad" "TAKEN_FOR" "[I"), (Jvm.Cond.laysStatic "OneHeavyLoad" "MAX_SETTING" "[I"), (Jvm.Cond.stringRef "OneHeavyLoad$Reader" (61 : Nat) "road"), (Jvm.Cond.laysStatic "java/lang/String" "COMPACT_STRINGS" "Z"), (Jvm.Cond.laysStatic "jdk/internal/util/Preconditions" "SIOOBE_FORMATTER" "Ljava/util/function/BiFunction;"), (Jvm.Cond.methodLinkNest "OneHeavyLoad$Tape" (58 : Nat) ({ cls := "OneHeavyLoad", name := "within", desc := "(III)Z" } : Jvm.MethodName) "OneHeavyLoad"), (Jvm.Cond.stringRef "OneHeavyLoad$Reader" (117 : Nat) "miles"), (Jvm.Cond.stringRef "OneHeavyLoad$Reader" (123 : Nat) "rise"), (Jvm.Cond.stringRef "OneHeavyLoad$Reader" (129 : Nat) "turn"), (Jvm.Cond.stringRef "OneHeavyLoad$Reader" (131 : Nat) "parish"), (Jvm.Cond.stringRef "OneHeavyLoad$Reader" (70 : Nat) "bridge"), (Jvm.Cond.stringRef "OneHeavyLoad$Reader" (137 : Nat) "kind"), (Jvm.Cond.stringRef "OneHeavyLoad$Reader" (139 : Nat) "span"), (Jvm.Cond.stringRef "OneHeavyLoad$Reader" (141 : Nat) "axle"), (Jvm.Cond.stringRef "OneHeavyLoad$Reader" (143 : Nat) "all"), (Jvm.Cond.stringRef "OneHeavyLoad$Reader" (145 : Nat) "prop"), (Jvm.Cond.stringRef "OneHeavyLoad$Reader" (75 : Nat) "waggon"), (Jvm.Cond.stringRef "OneHeavyLoad$Reader" (155 : Nat) "space"), (Jvm.Cond.stringRef "OneHeavyLoad$Reader" (157 : Nat) "tare"), (Jvm.Cond.stringRef "OneHeavyLoad$Reader" (80 : Nat) "part"), (Jvm.Cond.stringRef "OneHeavyLoad$Reader" (85 : Nat) "load"), (Jvm.Cond.fieldLinkNest "OneHeavyLoad$Reader" (166 : Nat) "OneHeavyLoad" "MAX_SETTING" "[I" "OneHeavyLoad"), (Jvm.Cond.stringRef "OneHeavyLoad$Reader" (94 : Nat) "mile"), (Jvm.Cond.methodLinkNest "OneHeavyLoad$Pack" (43 : Nat) ({ cls := "OneHeavyLoad", name := "roundedUp", desc := "(II)I" } : Jvm.MethodName) "OneHeavyLoad"), (Jvm.Cond.methodLinkNest "OneHeavyLoad$Pack" (52 : Nat) ({ cls := "OneHeavyLoad", name := "cut", desc := "(II)I" } : Jvm.MethodName) "OneHeavyLoad"), (Jvm.Cond.methodLinkNest "OneHeavyLoad$Ways" (75 : Nat) ({ cls := "OneHeavyLoad", name := "roundedUp", desc := "(II)I" } : Jvm.MethodName) "OneHeavyLoad"), (Jvm.Cond.arrayOver (Jvm.ClassFile.FieldType.array Jvm.ClassFile.FieldType.long)), (Jvm.Cond.arrayOver (Jvm.ClassFile.FieldType.array Jvm.ClassFile.FieldType.int)), (Jvm.Cond.stringRef "OneHeavyLoadModel" (200 : Nat) "road"), (Jvm.Cond.stringRef "OneHeavyLoadModel" (219 : Nat) "miles"), (Jvm.Cond.stringRef "OneHeavyLoadModel" (221 : Nat) "rise"), (Jvm.Cond.stringRef "OneHeavyLoadModel" (226 : Nat) "turn"), (Jvm.Cond.stringRef "OneHeavyLoadModel" (228 : Nat) "parish"), (Jvm.Cond.stringRef "OneHeavyLoadModel" (205 : Nat) "bridge"), (Jvm.Cond.stringRef "OneHeavyLoadModel" (230 : Nat) "kind"), (Jvm.Cond.stringRef "OneHeavyLoadModel" (232 : Nat) "span"), (Jvm.Cond.stringRef "OneHeavyLoadModel" (234 : Nat) "axle"), (Jvm.Cond.stringRef "OneHeavyLoadModel" (236 : Nat) "all"), (Jvm.Cond.stringRef "OneHeavyLoadModel" (238 : Nat) "prop"), (Jvm.Cond.stringRef "OneHeavyLoadModel" (209 : Nat) "waggon"), (Jvm.Cond.stringRef "OneHeavyLoadModel" (210 : Nat) "space"), (Jvm.Cond.stringRef "OneHeavyLoadModel" (212 : Nat) "tare"), (Jvm.Cond.stringRef "OneHeavyLoadModel" (214 : Nat) "part"), (Jvm.Cond.stringRef "OneHeavyLoadModel" (215 : Nat) "load"), (Jvm.Cond.stringRef "OneHeavyLoadModel" (217 : Nat) "mile")] : List Cond), x ∈ lw_tbl := ph_inn (gs := [95, 0, 44, 24, 77, 112, 24, 0, 85, 46, 13, 15, 48, 2, 9, 8, 0, 2, 4, 0, 0, 0, 0, 2, 4, 0, 1, 5, 4, 0, 62, 10, 43, 198, 1, 241, 18, 4, 4, 0, 0, 4, 0, 0, 0, 0, 0, 0, 0, 0, 0, 0]) (by decide +kernel)
set_option maxHeartbeats 4000000 in
set_option maxRecDepth 100000 in
/-- what the launch gives -/
theorem lw_env {p : Program} {s : State} {m : MethodId} {meth : Method} {c : Code} {b L : Nat} {xs : Nat → Int32} (C0 : lw_At p s m meth c b L xs) : ∃ (D : va_G) (E G : Nat → _), va_K D vwCl (oh_ty E) s ∧ oh_G G (fun q => s.heap.size ≤ q) s := by
  obtain ⟨hx, hb, hr, hml, hown, hts, hX, hbl, hlocks, hgv⟩ := C0
  have htg : ∀ w ∈ oh_t, w.before #[Value.ref b] s = true := fun w h => hts w (List.mem_filter.mp h).1
  have hs := flat_of_before _ hgv
  have hnA : ∀ a : Nat, a < s.heap.size → ¬ (fun q : Nat => s.heap.size ≤ q) a := fun a h => Nat.not_le.mpr h
  obtain ⟨c0, iS0, hKn0⟩ := u_known (C := RX0) (T := TX0) (N := 8) (n := 8) htg ig_0 (htg _ q_90)
  obtain ⟨c1, iS1, hKn1⟩ := u_known (C := RX1) (T := TX1) (N := 5) (n := 5) htg ig_1 (htg _ q_140)
  obtain ⟨c2, iS2, hKn2⟩ := u_known (C := RX2) (T := TX2) (N := 4) (n := 4) htg ig_2 (htg _ q_239)
  obtain ⟨c3, iS3, hKn3⟩ := u_known (C := RX3) (T := TX3) (N := 3) (n := 3) htg ig_3 (htg _ q_193)
  obtain ⟨c4, iS4, hKn4⟩ := u_known (C := RX4) (T := TX4) (N := 6) (n := 6) htg ig_4 (htg _ q_212)
  obtain ⟨c5, iS5, hKn5⟩ := u_known (C := RX5) (T := TX5) (N := 7) (n := 7) htg ig_5 (htg _ q_134)
  obtain ⟨c6, iS6, hKn6⟩ := u_known (C := RX6) (T := TX6) (N := 9) (n := 9) htg ig_6 (htg _ q_82)
  obtain ⟨c7, iS7, hKn7⟩ := u_known (C := RX7) (T := TX7) (N := 29) (n := 29) htg ig_7 (htg _ q_964)
  obtain ⟨e0, k0, m0, f0, g0, h0⟩ := Cond.arrayClass_spec (htg _ q_132)
  obtain ⟨e1, k1, m1, f1, g1, h1⟩ := Cond.arrayClass_spec (htg _ q_210)
  have ao2 : (Cond.arrayOver (.array .int)).before #[Value.ref b] s = true := hts _ (lw_xc0 _ (List.mem_of_getElem? (i := 34) rfl))
  obtain ⟨m2, e2, k2, n2, o2, g2, h2, f2⟩ := Jvm.Stand.arrayOver_specB ao2
  have ao3 : (Cond.arrayOver (.array .long)).before #[Value.ref b] s = true := hts _ (lw_xc0 _ (List.mem_of_getElem? (i := 33) rfl))
  obtain ⟨m3, e3, k3, n3, o3, g3, h3, f3⟩ := Jvm.Stand.arrayOver_specB ao3
  have E0_0 := hs (Cond.eq (.elem (Term.static "OneHeavyLoad" "ROOM" "[I") (.int (Int32.ofNat 0))) (.int 24)) (lw_ec0 _ (List.mem_of_getElem? (i := 2) rfl))
  have E0_1 := hs (Cond.eq (.elem (Term.static "OneHeavyLoad" "ROOM" "[I") (.int (Int32.ofNat 1))) (.int 16)) (lw_ec0 _ (List.mem_of_getElem? (i := 3) rfl))
  have E0_2 := hs (Cond.eq (.elem (Term.static "OneHeavyLoad" "ROOM" "[I") (.int (Int32.ofNat 2))) (.int 5)) (lw_ec0 _ (List.mem_of_getElem? (i := 4) rfl))
  have E0_3 := hs (Cond.eq (.elem (Term.static "OneHeavyLoad" "ROOM" "[I") (.int (Int32.ofNat 3))) (.int 5)) (lw_ec0 _ (List.mem_of_getElem? (i := 5) rfl))
  obtain ⟨t0, v0, T0⟩ := va_Tof (tm := (Term.static "OneHeavyLoad" "ROOM" "[I")) (ty := .int) (N := 4) (f := fun j => .int (oh_room j)) (A := fun q => s.heap.size ≤ q) (by decide) (hs _ (lw_ec0 _ (List.mem_of_getElem? (i := 0) rfl))) (va_eqt (z := Int32.ofNat 4) (hs _ (lw_ec0 _ (List.mem_of_getElem? (i := 1) rfl)))) (by intro j hj; rcases (show j = 0 ∨ j = 1 ∨ j = 2 ∨ j = 3 by omega) with rfl | rfl | rfl | rfl; exact va_eqt E0_0; exact va_eqt E0_1; exact va_eqt E0_2; exact va_eqt E0_3) hnA
  have Z0 := va_Zref (A := fun q => s.heap.size ≤ q) (hts _ (lw_xc0 _ (List.mem_of_getElem? (i := 1) rfl))) (htg _ q_66) v0 hnA
  have E1_0 := hs (Cond.eq (.elem (Term.static "OneHeavyLoad" "MAX_SETTING" "[I") (.int (Int32.ofNat 0))) (.int 900)) (lw_ec0 _ (List.mem_of_getElem? (i := 16) rfl))
  have E1_1 := hs (Cond.eq (.elem (Term.static "OneHeavyLoad" "MAX_SETTING" "[I") (.int (Int32.ofNat 1))) (.int 99)) (lw_ec0 _ (List.mem_of_getElem? (i := 17) rfl))
  have E1_2 := hs (Cond.eq (.elem (Term.static "OneHeavyLoad" "MAX_SETTING" "[I") (.int (Int32.ofNat 2))) (.int 1)) (lw_ec0 _ (List.mem_of_getElem? (i := 18) rfl))
  obtain ⟨t1, v1, T1⟩ := va_Tof (tm := (Term.static "OneHeavyLoad" "MAX_SETTING" "[I")) (ty := .int) (N := 3) (f := fun j => .int (oh_maxs j)) (A := fun q => s.heap.size ≤ q) (by decide) (hs _ (lw_ec0 _ (List.mem_of_getElem? (i := 14) rfl))) (va_eqt (z := Int32.ofNat 3) (hs _ (lw_ec0 _ (List.mem_of_getElem? (i := 15) rfl)))) (by intro j hj; rcases (show j = 0 ∨ j = 1 ∨ j = 2 by omega) with rfl | rfl | rfl; exact va_eqt E1_0; exact va_eqt E1_1; exact va_eqt E1_2) hnA
  have Z1 := va_Zref (A := fun q => s.heap.size ≤ q) (hts _ (lw_xc0 _ (List.mem_of_getElem? (i := 8) rfl))) (htg _ q_66) v1 hnA
  have E2_0 := hs (Cond.eq (.elem (Term.static "OneHeavyLoad" "TAKEN_FOR" "[I") (.int (Int32.ofNat 0))) (.int 1)) (lw_ec0 _ (List.mem_of_getElem? (i := 8) rfl))
  have E2_1 := hs (Cond.eq (.elem (Term.static "OneHeavyLoad" "TAKEN_FOR" "[I") (.int (Int32.ofNat 1))) (.int 3)) (lw_ec0 _ (List.mem_of_getElem? (i := 9) rfl))
  have E2_2 := hs (Cond.eq (.elem (Term.static "OneHeavyLoad" "TAKEN_FOR" "[I") (.int (Int32.ofNat 2))) (.int 7)) (lw_ec0 _ (List.mem_of_getElem? (i := 10) rfl))
  have E2_3 := hs (Cond.eq (.elem (Term.static "OneHeavyLoad" "TAKEN_FOR" "[I") (.int (Int32.ofNat 3))) (.int 9)) (lw_ec0 _ (List.mem_of_getElem? (i := 11) rfl))
  have E2_4 := hs (Cond.eq (.elem (Term.static "OneHeavyLoad" "TAKEN_FOR" "[I") (.int (Int32.ofNat 4))) (.int 17)) (lw_ec0 _ (List.mem_of_getElem? (i := 12) rfl))
  have E2_5 := hs (Cond.eq (.elem (Term.static "OneHeavyLoad" "TAKEN_FOR" "[I") (.int (Int32.ofNat 5))) (.int 49)) (lw_ec0 _ (List.mem_of_getElem? (i := 13) rfl))
  obtain ⟨t2, v2, T2⟩ := va_Tof (tm := (Term.static "OneHeavyLoad" "TAKEN_FOR" "[I")) (ty := .int) (N := 6) (f := fun j => .int (oh_tak j)) (A := fun q => s.heap.size ≤ q) (by decide) (hs _ (lw_ec0 _ (List.mem_of_getElem? (i := 6) rfl))) (va_eqt (z := Int32.ofNat 6) (hs _ (lw_ec0 _ (List.mem_of_getElem? (i := 7) rfl)))) (by intro j hj; rcases (show j = 0 ∨ j = 1 ∨ j = 2 ∨ j = 3 ∨ j = 4 ∨ j = 5 by omega) with rfl | rfl | rfl | rfl | rfl | rfl; exact va_eqt E2_0; exact va_eqt E2_1; exact va_eqt E2_2; exact va_eqt E2_3; exact va_eqt E2_4; exact va_eqt E2_5) hnA
  have Z2 := va_Zref (A := fun q => s.heap.size ≤ q) (hts _ (lw_xc0 _ (List.mem_of_getElem? (i := 7) rfl))) (htg _ q_66) v2 hnA
  obtain ⟨K0, V0, S0, u0⟩ := lw_st0 hs hnA
  obtain ⟨K1, V1, S1, u1⟩ := lw_st1 hs hnA
  obtain ⟨K2, V2, S2, u2⟩ := lw_st2 hs hnA
  obtain ⟨K3, V3, S3, u3⟩ := lw_st3 hs hnA
  obtain ⟨K4, V4, S4, u4⟩ := lw_st4 hs hnA
  obtain ⟨K5, V5, S5, u5⟩ := lw_st5 hs hnA
  obtain ⟨K6, V6, S6, u6⟩ := lw_st6 hs hnA
  obtain ⟨K7, V7, S7, u7⟩ := lw_st7 hs hnA
  obtain ⟨K8, V8, S8, u8⟩ := lw_st8 hs hnA
  obtain ⟨K9, V9, S9, u9⟩ := lw_st9 hs hnA
  obtain ⟨K10, V10, S10, u10⟩ := lw_st10 hs hnA
  obtain ⟨K11, V11, S11, u11⟩ := lw_st11 hs hnA
  obtain ⟨K12, V12, S12, u12⟩ := lw_st12 hs hnA
  obtain ⟨K13, V13, S13, u13⟩ := lw_st13 hs hnA
  obtain ⟨K14, V14, S14, u14⟩ := lw_st14 hs hnA
  obtain ⟨K15, V15, S15, u15⟩ := lw_st15 hs hnA
  obtain ⟨K16, V16, S16, u16⟩ := lw_st16 hs hnA
  obtain ⟨K17, V17, S17, u17⟩ := lw_st17 hs hnA
  obtain ⟨K18, V18, S18, u18⟩ := lw_st18 hs hnA
  obtain ⟨K19, V19, S19, u19⟩ := lw_st19 hs hnA
  obtain ⟨K20, V20, S20, u20⟩ := lw_st20 hs hnA
  obtain ⟨K21, V21, S21, u21⟩ := lw_st21 hs hnA
  obtain ⟨K22, V22, S22, u22⟩ := lw_st22 hs hnA
  obtain ⟨K23, V23, S23, u23⟩ := lw_st23 hs hnA
  obtain ⟨K24, V24, S24, u24⟩ := lw_st24 hs hnA
  obtain ⟨K25, V25, S25, u25⟩ := lw_st25 hs hnA
  obtain ⟨K26, V26, S26, u26⟩ := lw_st26 hs hnA
  obtain ⟨K27, V27, S27, u27⟩ := lw_st27 hs hnA
  obtain ⟨K28, V28, S28, u28⟩ := lw_st28 hs hnA
  obtain ⟨K29, V29, S29, u29⟩ := lw_st29 hs hnA
  obtain ⟨K30, V30, S30, u30⟩ := lw_st30 hs hnA
  obtain ⟨K31, V31, S31, u31⟩ := lw_st31 hs hnA
  obtain ⟨K32, V32, S32, u32⟩ := lw_st32 hs hnA
  obtain ⟨K33, V33, S33, u33⟩ := lw_st33 hs hnA
  have Zc := va_Zof (C := "java/lang/String") (n := "COMPACT_STRINGS") (d := "Z") (v := .int 1) (A := fun q => s.heap.size ≤ q) (hts _ (lw_xc0 _ (List.mem_of_getElem? (i := 10) rfl))) (htg _ q_75) (va_eqt (hs _ (lw_ec0 _ (List.mem_of_getElem? (i := 19) rfl)))) hnA
  have Zq := va_Zqof (C := "jdk/internal/util/Preconditions") (n := "SIOOBE_FORMATTER") (d := "Ljava/util/function/BiFunction;") (A := fun q => s.heap.size ≤ q) (hts _ (lw_xc0 _ (List.mem_of_getElem? (i := 11) rfl))) (htg _ q_77) (hs _ (lw_ec0 _ (List.mem_of_getElem? (i := 20) rfl))) hnA
  refine ⟨(fun k => if k = 0 then c0 else if k = 1 then c1 else if k = 2 then c2 else if k = 3 then c3 else if k = 4 then c4 else if k = 5 then c5 else if k = 6 then c6 else c7, fun k => if k = 0 then iS0 else if k = 1 then iS1 else if k = 2 then iS2 else if k = 3 then iS3 else if k = 4 then iS4 else if k = 5 then iS5 else if k = 6 then iS6 else iS7), (fun i => if i = 0 then e0 else if i = 1 then e1 else if i = 2 then e2 else e3), (fun i => ([t0, t1, t2, K0, K1, K2, K3, K4, K5, K6, K7, K8, K9, K10, K11, K12, K13, K14, K15, K16, K17, K18, K19, K20, K21, K22, K23, K24, K25, K26, K27, K28, K29, K30, K31, K32, K33, 0, 0, 0, V0, V1, V2, V3, V4, V5, V6, V7, V8, V9, V10, V11, V12, V13, V14, V15, V16, V17, V18, V19, V20, V21, V22, V23, V24, V25, V26, V27, V28, V29, V30, V31, V32, V33] : List Nat).getD i 0), ⟨?_, ?_⟩, ?_⟩
  · intro k q hq
    match k, hq with
    | 0, hq => cases hq; exact hKn0
    | 1, hq => cases hq; exact hKn1
    | 2, hq => cases hq; exact hKn2
    | 3, hq => cases hq; exact hKn3
    | 4, hq => cases hq; exact hKn4
    | 5, hq => cases hq; exact hKn5
    | 6, hq => cases hq; exact hKn6
    | 7, hq => cases hq; exact hKn7
    | k + 8, hq => simp [vwCl] at hq
  · intro k q hq
    match k, hq with
    | 0, hq => cases hq; exact ⟨fun N z => ⟨fun q hq => (by cases hq), k0, g0, m0, h0⟩, f0⟩
    | 1, hq => cases hq; exact ⟨fun N z => ⟨fun q hq => (by cases hq), k1, g1, m1, h1⟩, f1⟩
    | 2, hq => cases hq; exact ⟨fun N z => ⟨fun q hq => (by cases hq), k2, g2, m2, h2⟩, f2⟩
    | 3, hq => cases hq; exact ⟨fun N z => ⟨fun q hq => (by cases hq), k3, g3, m3, h3⟩, f3⟩
    | k + 4, hq => simp [oh_ty] at hq
  · refine ⟨List.forall_mem_cons.mpr ⟨va_Nw.of rfl (hts _ (lw_xc0 _ (List.mem_of_getElem? (i := 2) rfl))), List.forall_mem_cons.mpr ⟨va_Nw.of rfl (hts _ (lw_xc0 _ (List.mem_of_getElem? (i := 5) rfl))), List.forall_mem_cons.mpr ⟨va_Nw.of rfl (hts _ (lw_xc0 _ (List.mem_of_getElem? (i := 12) rfl))), List.forall_mem_cons.mpr ⟨va_Nw.of rfl (hts _ (lw_xc0 _ (List.mem_of_getElem? (i := 30) rfl))), List.forall_mem_cons.mpr ⟨va_Nw.of rfl (hts _ (lw_xc0 _ (List.mem_of_getElem? (i := 31) rfl))), List.forall_mem_cons.mpr ⟨va_Nw.of rfl (hts _ (lw_xc0 _ (List.mem_of_getElem? (i := 32) rfl))), fun _ h => absurd h List.not_mem_nil⟩⟩⟩⟩⟩⟩, List.forall_mem_cons.mpr ⟨va_Nw.of rfl (hts _ (lw_xc0 _ (List.mem_of_getElem? (i := 0) rfl))), List.forall_mem_cons.mpr ⟨va_Nw.of rfl (hts _ (lw_xc0 _ (List.mem_of_getElem? (i := 3) rfl))), List.forall_mem_cons.mpr ⟨va_Nw.of rfl (hts _ (lw_xc0 _ (List.mem_of_getElem? (i := 4) rfl))), List.forall_mem_cons.mpr ⟨va_Nw.of rfl (hts _ (lw_xc0 _ (List.mem_of_getElem? (i := 6) rfl))), List.forall_mem_cons.mpr ⟨va_Nw.of rfl (hts _ (lw_xc0 _ (List.mem_of_getElem? (i := 28) rfl))), fun _ h => absurd h List.not_mem_nil⟩⟩⟩⟩⟩, List.forall_mem_cons.mpr ⟨vk_R.of (hts _ (lw_xc0 _ (List.mem_of_getElem? (i := 9) rfl))) u0, List.forall_mem_cons.mpr ⟨vk_R.of (hts _ (lw_xc0 _ (List.mem_of_getElem? (i := 13) rfl))) u1, List.forall_mem_cons.mpr ⟨vk_R.of (hts _ (lw_xc0 _ (List.mem_of_getElem? (i := 14) rfl))) u2, List.forall_mem_cons.mpr ⟨vk_R.of (hts _ (lw_xc0 _ (List.mem_of_getElem? (i := 15) rfl))) u3, List.forall_mem_cons.mpr ⟨vk_R.of (hts _ (lw_xc0 _ (List.mem_of_getElem? (i := 16) rfl))) u4, List.forall_mem_cons.mpr ⟨vk_R.of (hts _ (lw_xc0 _ (List.mem_of_getElem? (i := 17) rfl))) u5, List.forall_mem_cons.mpr ⟨vk_R.of (hts _ (lw_xc0 _ (List.mem_of_getElem? (i := 18) rfl))) u6, List.forall_mem_cons.mpr ⟨vk_R.of (hts _ (lw_xc0 _ (List.mem_of_getElem? (i := 19) rfl))) u7, List.forall_mem_cons.mpr ⟨vk_R.of (hts _ (lw_xc0 _ (List.mem_of_getElem? (i := 20) rfl))) u8, List.forall_mem_cons.mpr ⟨vk_R.of (hts _ (lw_xc0 _ (List.mem_of_getElem? (i := 21) rfl))) u9, List.forall_mem_cons.mpr ⟨vk_R.of (hts _ (lw_xc0 _ (List.mem_of_getElem? (i := 22) rfl))) u10, List.forall_mem_cons.mpr ⟨vk_R.of (hts _ (lw_xc0 _ (List.mem_of_getElem? (i := 23) rfl))) u11, List.forall_mem_cons.mpr ⟨vk_R.of (hts _ (lw_xc0 _ (List.mem_of_getElem? (i := 24) rfl))) u12, List.forall_mem_cons.mpr ⟨vk_R.of (hts _ (lw_xc0 _ (List.mem_of_getElem? (i := 25) rfl))) u13, List.forall_mem_cons.mpr ⟨vk_R.of (hts _ (lw_xc0 _ (List.mem_of_getElem? (i := 26) rfl))) u14, List.forall_mem_cons.mpr ⟨vk_R.of (hts _ (lw_xc0 _ (List.mem_of_getElem? (i := 27) rfl))) u15, List.forall_mem_cons.mpr ⟨vk_R.of (hts _ (lw_xc0 _ (List.mem_of_getElem? (i := 29) rfl))) u16, List.forall_mem_cons.mpr ⟨vk_R.of (hts _ (lw_xc0 _ (List.mem_of_getElem? (i := 35) rfl))) u17, List.forall_mem_cons.mpr ⟨vk_R.of (hts _ (lw_xc0 _ (List.mem_of_getElem? (i := 36) rfl))) u18, List.forall_mem_cons.mpr ⟨vk_R.of (hts _ (lw_xc0 _ (List.mem_of_getElem? (i := 37) rfl))) u19, List.forall_mem_cons.mpr ⟨vk_R.of (hts _ (lw_xc0 _ (List.mem_of_getElem? (i := 38) rfl))) u20, List.forall_mem_cons.mpr ⟨vk_R.of (hts _ (lw_xc0 _ (List.mem_of_getElem? (i := 39) rfl))) u21, List.forall_mem_cons.mpr ⟨vk_R.of (hts _ (lw_xc0 _ (List.mem_of_getElem? (i := 40) rfl))) u22, List.forall_mem_cons.mpr ⟨vk_R.of (hts _ (lw_xc0 _ (List.mem_of_getElem? (i := 41) rfl))) u23, List.forall_mem_cons.mpr ⟨vk_R.of (hts _ (lw_xc0 _ (List.mem_of_getElem? (i := 42) rfl))) u24, List.forall_mem_cons.mpr ⟨vk_R.of (hts _ (lw_xc0 _ (List.mem_of_getElem? (i := 43) rfl))) u25, List.forall_mem_cons.mpr ⟨vk_R.of (hts _ (lw_xc0 _ (List.mem_of_getElem? (i := 44) rfl))) u26, List.forall_mem_cons.mpr ⟨vk_R.of (hts _ (lw_xc0 _ (List.mem_of_getElem? (i := 45) rfl))) u27, List.forall_mem_cons.mpr ⟨vk_R.of (hts _ (lw_xc0 _ (List.mem_of_getElem? (i := 46) rfl))) u28, List.forall_mem_cons.mpr ⟨vk_R.of (hts _ (lw_xc0 _ (List.mem_of_getElem? (i := 47) rfl))) u29, List.forall_mem_cons.mpr ⟨vk_R.of (hts _ (lw_xc0 _ (List.mem_of_getElem? (i := 48) rfl))) u30, List.forall_mem_cons.mpr ⟨vk_R.of (hts _ (lw_xc0 _ (List.mem_of_getElem? (i := 49) rfl))) u31, List.forall_mem_cons.mpr ⟨vk_R.of (hts _ (lw_xc0 _ (List.mem_of_getElem? (i := 50) rfl))) u32, List.forall_mem_cons.mpr ⟨vk_R.of (hts _ (lw_xc0 _ (List.mem_of_getElem? (i := 51) rfl))) u33, fun _ h => absurd h List.not_mem_nil⟩⟩⟩⟩⟩⟩⟩⟩⟩⟩⟩⟩⟩⟩⟩⟩⟩⟩⟩⟩⟩⟩⟩⟩⟩⟩⟩⟩⟩⟩⟩⟩⟩⟩, ⟨Z0, T0⟩, ⟨Z1, T1⟩, ⟨Z2, T2⟩, ao2, ao3, Zc, Zq, fun j hj => ?_⟩
    rcases (show j = 0 ∨ j = 1 ∨ j = 2 ∨ j = 3 ∨ j = 4 ∨ j = 5 ∨ j = 6 ∨ j = 7 ∨ j = 8 ∨ j = 9 ∨ j = 10 ∨ j = 11 ∨ j = 12 ∨ j = 13 ∨ j = 14 ∨ j = 15 ∨ j = 16 ∨ j = 17 ∨ j = 18 ∨ j = 19 ∨ j = 20 ∨ j = 21 ∨ j = 22 ∨ j = 23 ∨ j = 24 ∨ j = 25 ∨ j = 26 ∨ j = 27 ∨ j = 28 ∨ j = 29 ∨ j = 30 ∨ j = 31 ∨ j = 32 ∨ j = 33 by omega) with rfl | rfl | rfl | rfl | rfl | rfl | rfl | rfl | rfl | rfl | rfl | rfl | rfl | rfl | rfl | rfl | rfl | rfl | rfl | rfl | rfl | rfl | rfl | rfl | rfl | rfl | rfl | rfl | rfl | rfl | rfl | rfl | rfl | rfl
    · exact S0
    · exact S1
    · exact S2
    · exact S3
    · exact S4
    · exact S5
    · exact S6
    · exact S7
    · exact S8
    · exact S9
    · exact S10
    · exact S11
    · exact S12
    · exact S13
    · exact S14
    · exact S15
    · exact S16
    · exact S17
    · exact S18
    · exact S19
    · exact S20
    · exact S21
    · exact S22
    · exact S23
    · exact S24
    · exact S25
    · exact S26
    · exact S27
    · exact S28
    · exact S29
    · exact S30
    · exact S31
    · exact S32
    · exact S33
theorem pdX6_init : yX6_init.cls ≠ "java/lang/invoke/MethodHandle" ∧ yX6_init.cls ≠ "java/lang/invoke/VarHandle" ∧ (parseMethodDescriptor yX6_init.desc).map (fun d => d.parameters.length) = some 0 := by decide +kernel
